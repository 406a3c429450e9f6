/** The edges of promises 16 to 23: what there is. */
final class EdgesOfFacts {
    private static final int NONE = Edge.NONE;
    private static final int LOW = Edge.LOW;
    private static final int HIGH = Edge.HIGH;
    private static final int[] ALL = {0, 1, 2, 3, 4, 5};

    private EdgesOfFacts() {
    }

    static void run() {
        server();
        serverAnew();
        serverAnewToTheLastCall();
        number();
        of();
        ofMinutes();
        room();
        roomCounts();
        firm();
        firmCounts();
        known();
        knownTables();
        audit();
    }

    private static void server() {
        Edge.of(16, "`number`: 0 to 199", x -> {
            x.give(0, 3);
            x.give(19, 2);
            x.assign(0, 5);
            x.assign(199, 5);
            for (int bad : Edge.NO_NUMBERS) {
                x.server(bad).noIndex();
            }
            x.server(0).is(3);
            x.server(199).is(2);
            x.server(1).is(NONE);
            x.server(198).is(NONE);
        });
        Edge.of(16, "Throws `IndexOutOfBoundsException` if there is no such number", x -> {
            x.server(-1).noIndex();
            x.server(200).noIndex();
        });
        Edge.of(16, "Returns the firm; NONE if it is not in use.", x -> {
            x.server(0).is(NONE);
            x.give(0, 0);
            x.server(0).is(NONE);
            x.assign(0, 5);
            x.server(0).is(0);
            x.end(0);
            x.server(0).is(NONE);
            x.pass(100);
            x.server(0).is(NONE);
        });
        Edge.of(16, "Tells who serves a number.", x -> {
            x.withNumbers();
            x.move(0, 5, 0);
            x.server(0).is(5);
            x.reverse(0);
            x.server(0).is(0);
            x.endFirm(0, 4);
            x.server(0).is(4);
        });
    }

    private static void serves(Land x, int number, int firm) {
        x.serverAnew(number).is(firm);
        x.server(number).is(firm);
    }

    private static void serverAnew() {
        Edge.of(17, "`number`: 0 to 199", x -> {
            x.give(0, 3);
            x.give(19, 2);
            x.assign(0, 5);
            x.assign(199, 5);
            for (int bad : Edge.NO_NUMBERS) {
                x.serverAnew(bad).noIndex();
            }
            x.serverAnew(0).is(3);
            x.serverAnew(199).is(2);
            x.serverAnew(1).is(NONE);
            x.serverAnew(198).is(NONE);
        });
        Edge.of(17, "Throws `IndexOutOfBoundsException` if there is no such number", x -> {
            x.serverAnew(-1).noIndex();
            x.serverAnew(200).noIndex();
        });
        Edge.of(17, "Returns the firm; NONE if it is not in use.", x -> {
            serves(x, 0, NONE);
            x.give(0, 0);
            serves(x, 0, NONE);
            x.assign(0, 5);
            serves(x, 0, 0);
            serves(x, 1, NONE);
            x.end(0);
            serves(x, 0, NONE);
            x.endFirm(0, 1);
            serves(x, 0, NONE);
            serves(x, 1, NONE);
        });
        Edge.of(17, "Tells the same, by all that became of the number from its first contract on.", x -> {
            x.withNumbers();
            x.give(1, 1);
            x.assign(10, 5);
            x.move(0, 2, 0);
            serves(x, 0, 2);
            serves(x, 1, 0);
            x.move(0, 3, 0);
            serves(x, 0, 3);
            x.reverse(1);
            serves(x, 0, 2);
            x.endFirm(2, 1);
            serves(x, 0, 1);
            serves(x, 10, 1);
            x.endFirm(0, 4);
            serves(x, 0, 1);
            serves(x, 1, 4);
            x.endFirm(1, 4);
            serves(x, 0, 4);
            serves(x, 10, 4);
            x.end(0);
            serves(x, 0, NONE);
            x.endFirm(4, 5);
            serves(x, 0, NONE);
            serves(x, 1, 5);
            x.pass(100);
            x.assign(0, 5);
            serves(x, 0, 5);
        });
        Edge.of(17, "Tells the same, by all that became of the number from its first contract on.", x -> {
            x.withNumbers();
            // What did not become of it: orders that are REJECTED, CANCELLED or put off, and calls that throw.
            x.order(1, 0, 4, 10);
            x.order(1, 0, 5, 10);
            x.order(1, 1, 5, 10);
            x.emergency(1);
            x.cancel(1);
            x.assign(0, 5).noState();
            x.endFirm(0, 0).noArgument();
            x.pass(10);
            serves(x, 0, 0);
            serves(x, 1, 0);
            x.endFirm(3, 2);
            serves(x, 0, 0);
            x.giveBack(0).noState();
            x.end(9);
            x.end(9).noState();
            serves(x, 9, NONE);
        });
        Edge.of(17, "Tells the same, by all that became of the number from its first contract on.", x -> {
            x.give(0, 2);
            x.assign(0, 5);
            x.end(0);
            x.pass(100);
            x.giveBack(0);
            x.give(0, 4);
            serves(x, 0, NONE);
            x.assign(0, 5);
            serves(x, 0, 4);
            x.endFirm(2, 3);
            serves(x, 0, 4);
        });
    }

    private static void serverAnewToTheLastCall() {
        Edge.of(17, "An object is used for at most 512 calls after it has been made", x -> {
            for (int block = 0; block < 10; block++) {
                x.give(block, 0);
            }
            for (int round = 0; round < 2; round++) {
                for (int number = 0; number < 100; number++) {
                    x.assign(number, 5);
                }
                for (int number = 0; number < 100; number++) {
                    x.end(number);
                }
                x.pass(100);
            }
            for (int number = 0; number < 94; number++) {
                x.assign(number, 5);
            }
            // These are the calls 507 to 512, behind as much as can become of numbers.
            x.serverAnew(93).is(0);
            x.endFirm(0, 3).is(94);
            x.end(92).is(3);
            x.serverAnew(92).is(NONE);
            x.serverAnew(93).is(3);
            x.serverAnew(94).is(NONE);
        });
    }

    private static void number() {
        Edge.of(18, "`number`: 0 to 199", x -> {
            x.give(0, 3);
            x.give(19, 2);
            for (int bad : Edge.NO_NUMBERS) {
                for (int what = 0; what < 5; what++) {
                    x.number(bad, what).noIndex();
                }
            }
            x.number(0, 0).is(3);
            x.number(199, 0).is(2);
        });
        Edge.of(18, "Throws `IndexOutOfBoundsException` if there is no such number", x -> {
            for (int bad : Edge.NO_NUMBERS) {
                x.number(bad, -1).noIndex();
                x.number(bad, 5).noIndex();
            }
        });
        Edge.of(18, "Throws `IllegalArgumentException` if what is out of range", x -> {
            for (int bad : new int[] {-1, 5, 256, LOW, HIGH}) {
                x.number(0, bad).noArgument();
                x.number(199, bad).noArgument();
            }
            x.number(0, 0).is(NONE);
            x.number(0, 4).is(NONE);
        });
        Edge.of(18, "0 the holder of its block, NONE", x -> {
            x.number(15, 0).is(NONE);
            x.give(1, 0);
            x.number(15, 0).is(0);
            x.assign(15, 5);
            x.move(15, 3, 0);
            // The holder, not who serves it.
            x.number(15, 0).is(0);
            x.endFirm(0, 5);
            x.number(15, 0).is(5);
            x.end(15);
            x.number(15, 0).is(5);
            x.pass(100);
            x.giveBack(1);
            x.number(15, 0).is(NONE);
        });
        Edge.of(18, "1 whether it is in quarantine now, 1 or 0", x -> {
            x.withNumbers();
            x.number(0, 1).is(0);
            x.end(0);
            x.number(0, 1).is(1);
            x.number(1, 1).is(0);
            x.pass(99);
            x.number(0, 1).is(1);
            x.pass(1);
            x.number(0, 1).is(0);
        });
        Edge.of(18, "2 whether it is silent now", x -> {
            x.withNumbers();
            x.number(0, 2).is(0);
            x.swap(0, 6);
            x.number(0, 2).is(1);
            x.number(1, 2).is(0);
            x.pass(49);
            x.number(0, 2).is(1);
            x.pass(1);
            x.number(0, 2).is(0);
        });
        Edge.of(18, "3 whether it may be called back now", x -> {
            x.withNumbers();
            x.number(0, 3).is(0);
            x.emergency(0);
            x.number(0, 3).is(1);
            x.number(1, 3).is(0);
            x.pass(30);
            x.number(0, 3).is(1);
            x.pass(1);
            x.number(0, 3).is(0);
        });
        Edge.of(18, "4 the order that is WAITING for it, NONE", x -> {
            x.withNumbers();
            x.number(0, 4).is(NONE);
            x.order(1, 0, 5, 10);
            x.order(1, 1, 4, 10);
            x.order(1, 2, 5, 10);
            x.order(1, 3, 5, 10);
            x.order(1, 9, 5, 11);
            x.number(0, 4).is(0);
            x.number(1, 4).is(NONE);
            x.number(2, 4).is(2);
            x.number(9, 4).is(4);
            x.emergency(2);
            x.pass(10);
            x.number(0, 4).is(NONE);
            x.number(2, 4).is(2);
            x.order(2, 0, 5, 100);
            x.number(0, 4).is(5);
            x.cancel(5);
            x.number(0, 4).is(NONE);
            x.reverse(0);
            x.number(0, 4).is(NONE);
        });
        Edge.of(18, "Returns as told.", x -> {
            x.withNumbers();
            x.swap(0, 6);
            x.end(1);
            x.emergency(2);
            int[][] due = {{0, 0, 1, 0, NONE}, {0, 1, 0, 0, NONE}, {0, 0, 0, 1, NONE}, {0, 0, 0, 0, NONE}};
            for (int number = 0; number < 4; number++) {
                for (int what = 0; what < 5; what++) {
                    x.number(number, what).is(due[number][what]);
                }
            }
        });
        Edge.of(18, "Tells of a number.", x -> {
            // To the sixtieth order, which waits for the last number.
            x.give(19, 0);
            x.assign(199, 5);
            for (int order = 0; order < 59; order++) {
                x.order(0, 199, 5, 10);
            }
            x.number(199, 4).is(NONE);
            x.order(1, 199, 5, 10).is(59);
            x.number(199, 4).is(59);
        });
    }

    private static void of() {
        Edge.of(19, "`order`: its number", x -> {
            x.withNumbers();
            x.of(0, 0).noIndex();
            x.order(1, 0, 5, 10);
            x.order(2, 1, 5, 10);
            for (int bad : new int[] {-1, 2, 59, 60, LOW, HIGH}) {
                for (int what = 0; what < 6; what++) {
                    x.of(bad, what).noIndex();
                }
            }
            x.of(0, 3).is(1);
            x.of(1, 3).is(2);
        });
        Edge.of(19, "Throws `IndexOutOfBoundsException` if there is no such order", x -> {
            x.of(0, 6).noIndex();
            x.of(-1, -1).noIndex();
            x.withNumbers();
            x.order(1, 0, 5, 10);
            x.of(1, 6).noIndex();
            x.of(-1, 6).noIndex();
        });
        Edge.of(19, "Throws `IllegalArgumentException` if what is out of range", x -> {
            x.withNumbers();
            x.order(1, 0, 5, 10);
            for (int bad : new int[] {-1, 6, 256, LOW, HIGH}) {
                x.of(0, bad).noArgument();
            }
            x.of(0, 0).is(Portinghall.WAITING);
            x.of(0, 5).is(10);
        });
        Edge.of(19, "0 REJECTED to REVERSED, 1 why it was REJECTED, 0 for others", x -> {
            x.withNumbers();
            x.order(1, 0, 5, 10);
            x.order(1, 1, 5, 10);
            x.order(1, 2, 5, 100);
            x.order(1, 3, 5, 110);
            x.order(1, 4, 4, 110);
            x.cancel(3);
            x.pass(10);
            x.reverse(1);
            int[] states = {
                Portinghall.DONE, Portinghall.REVERSED, Portinghall.WAITING, Portinghall.CANCELLED, Portinghall.REJECTED
            };
            for (int order = 0; order < 5; order++) {
                x.of(order, 0).is(states[order]);
                x.of(order, 1).is(order == 4 ? 3 : 0);
            }
        });
        Edge.of(19, "2 its number, 3 who wins, 4 its donor", x -> {
            x.give(19, 5);
            x.assign(199, 5);
            x.assign(190, 5);
            x.order(0, 199, 5, 10);
            x.order(4, 0, 5, 10);
            x.of(0, 2).is(199);
            x.of(0, 3).is(0);
            x.of(0, 4).is(5);
            x.of(1, 2).is(0);
            x.of(1, 3).is(4);
            x.of(1, 4).is(NONE);
            x.pass(10);
            x.endFirm(0, 1);
            // What there was stays as it was told, or done.
            x.of(0, 3).is(0);
            x.of(0, 4).is(5);
        });
        Edge.of(19, "Returns as told.", x -> {
            x.give(0, 3);
            x.assign(7, 5);
            x.order(2, 7, 5, 119);
            int[] due = {Portinghall.WAITING, 0, 7, 2, 3, 119};
            for (int what = 0; what < 6; what++) {
                x.of(0, what).is(due[what]);
            }
        });
    }

    private static void ofMinutes() {
        Edge.of(19, "5 the minute for which it waits, or waited", x -> {
            x.withNumbers();
            x.order(1, 0, 5, 10);
            x.order(1, 1, 5, 10);
            x.order(1, 2, 5, 110);
            x.order(1, 3, 5, 500);
            x.of(0, 5).is(10);
            x.of(3, 5).is(500);
            x.emergency(1);
            x.cancel(2);
            x.pass(10);
            x.of(0, 5).is(10);
            x.of(1, 5).is(110);
            x.of(2, 5).is(110);
            x.reverse(0);
            x.of(0, 5).is(10);
            x.pass(100);
            x.of(1, 0).is(Portinghall.DONE);
            x.of(1, 5).is(110);
        });
        Edge.of(19, "Tells of an order.", x -> {
            for (int order = 0; order < 60; order++) {
                x.order(order % 6, order, 5, 10 + order);
            }
            for (int order = 0; order < 60; order++) {
                x.of(order, 1).is(1);
                x.of(order, 2).is(order);
                x.of(order, 3).is(order % 6);
                x.of(order, 5).is(10 + order);
            }
        });
    }

    private static void room() {
        Edge.of(20, "`minute`: 0 to 10999", x -> {
            for (int bad : new int[] {-1, 11000, 11001, LOW, HIGH}) {
                x.room(bad).noArgument();
            }
            x.room(0).is(0);
            x.room(10919).is(3);
            x.room(10999).is(0);
            x.passTo(9999);
            for (int bad : new int[] {-1, 11000, LOW, HIGH}) {
                x.room(bad).noArgument();
            }
            x.room(0).is(0);
            x.room(10000).is(3);
            x.room(10919).is(3);
            x.room(10999).is(0);
        });
        Edge.of(20, "Throws `IllegalArgumentException` if minute is out of range", x -> {
            x.room(-1).noArgument();
            x.room(11000).noArgument();
        });
        Edge.of(20, "0 if it is in no window", x -> {
            int[] open = {1, 19, 100, 119, 200, 219, 9900, 9919, 10900, 10919};
            int[] shut = {20, 21, 99, 120, 199, 220, 9920, 9999, 10899, 10920, 10999};
            for (int minute : open) {
                x.room(minute).is(3);
            }
            for (int minute : shut) {
                x.room(minute).is(0);
            }
        });
        Edge.of(20, "or is not behind that of now", x -> {
            x.room(0).is(0);
            x.room(1).is(3);
            x.pass(5);
            x.room(4).is(0);
            x.room(5).is(0);
            x.room(6).is(3);
            x.passTo(119);
            x.room(19).is(0);
            x.room(118).is(0);
            x.room(119).is(0);
            x.room(200).is(3);
        });
    }

    private static void roomCounts() {
        Edge.of(20, "Returns how many orders can wait for a minute yet.", x -> {
            x.withNumbers();
            x.room(110).is(3);
            x.order(1, 0, 5, 110);
            x.room(110).is(2);
            x.order(1, 0, 5, 110);
            x.room(110).is(2);
            x.order(1, 1, 5, 110);
            x.room(110).is(1);
            x.order(1, 2, 5, 110);
            x.room(110).is(0);
            x.order(1, 3, 5, 110);
            x.room(110).is(0);
            x.room(109).is(3);
            x.room(111).is(3);
            x.room(210).is(3);
            x.cancel(0);
            x.room(110).is(1);
            x.end(1);
            x.room(110).is(2);
            x.endFirm(1, 2);
            x.room(110).is(3);
        });
        Edge.of(20, "at most 3 orders wait for one minute", x -> {
            x.withSixtyOrders();
            for (int minute = 100; minute < 120; minute++) {
                x.room(minute).is(0);
                x.room(minute + 100).is(3);
            }
            x.room(120).is(0);
            x.cancel(0);
            x.cancel(59);
            x.room(100).is(1);
            x.room(101).is(0);
            x.room(119).is(1);
        });
        Edge.of(20, "Returns how many; 0 if it is in no window, or is not behind that of now.", x -> {
            x.withNumbers();
            x.order(1, 0, 5, 10);
            x.order(1, 1, 5, 10);
            x.order(1, 2, 5, 110);
            x.emergency(0);
            x.pass(10);
            // One is done and one put off.
            x.room(10).is(0);
            x.room(110).is(1);
            x.pass(100);
            x.room(110).is(0);
        });
    }

    private static void firm() {
        Edge.of(21, "`firm`: 0 to 5", x -> {
            x.give(0, 0);
            x.give(1, 5);
            x.give(2, 5);
            for (int bad : Edge.NO_FIRMS) {
                for (int what = 0; what < 7; what++) {
                    x.firm(bad, what).noIndex();
                }
            }
            x.firm(0, 1).is(1);
            x.firm(5, 1).is(2);
        });
        Edge.of(21, "Throws `IndexOutOfBoundsException` if there is no such firm", x -> {
            for (int bad : Edge.NO_FIRMS) {
                x.firm(bad, -1).noIndex();
                x.firm(bad, 7).noIndex();
            }
        });
        Edge.of(21, "Throws `IllegalArgumentException` if what is out of range", x -> {
            for (int bad : new int[] {-1, 7, 256, LOW, HIGH}) {
                x.firm(0, bad).noArgument();
                x.firm(5, bad).noArgument();
            }
            x.firm(0, 0).is(0);
            x.firm(0, 6).is(0);
        });
        Edge.of(21, "0 whether it is GONE, 1 or 0", x -> {
            x.firm(0, 0).is(0);
            x.endFirm(0, 5);
            x.firm(0, 0).is(1);
            x.firm(5, 0).is(0);
            x.firm(1, 0).is(0);
        });
        Edge.of(21, "3 whether it is down, 4 its lag", x -> {
            x.setDown(2, true);
            x.setLag(3, 50);
            x.firm(2, 3).is(1);
            x.firm(2, 4).is(0);
            x.firm(3, 3).is(0);
            x.firm(3, 4).is(50);
        });
        Edge.of(21, "Returns as told.", x -> {
            x.withNumbers();
            x.give(1, 0);
            x.setLag(0, 7);
            x.setDown(0, true);
            x.order(1, 0, 5, 10);
            x.order(1, 1, 5, 10);
            x.order(2, 2, 5, 10);
            x.pass(10);
            int[] due = {0, 2, 7, 1, 7, 15, 3};
            for (int what = 0; what < 7; what++) {
                x.firm(0, what).is(due[what]);
            }
            x.endFirm(0, 3);
            int[] gone = {1, 0, 0, 1, 7, 15, 3};
            for (int what = 0; what < 7; what++) {
                x.firm(0, what).is(gone[what]);
            }
        });
    }

    private static void firmCounts() {
        Edge.of(21, "1 how many blocks it holds, 2 how many numbers it serves", x -> {
            x.firm(0, 1).is(0);
            x.firm(0, 2).is(0);
            for (int block = 0; block < 20; block++) {
                x.give(block, 0);
            }
            for (int number = 0; number < 200; number++) {
                x.assign(number, 5);
            }
            x.firm(0, 1).is(20);
            x.firm(0, 2).is(200);
            x.firm(1, 1).is(0);
            x.firm(1, 2).is(0);
            x.move(199, 1, 0);
            x.firm(0, 2).is(199);
            x.firm(1, 2).is(1);
            x.firm(0, 1).is(20);
            x.firm(1, 1).is(0);
            x.end(199);
            x.firm(1, 2).is(0);
            x.firm(0, 2).is(199);
        });
        Edge.of(21, "5 its account, below 0 too", x -> {
            x.withNumbers();
            x.firm(0, 5).is(0);
            x.order(1, 0, 5, 10);
            x.order(1, 1, 5, 10);
            x.pass(10);
            x.firm(1, 5).is(-10);
            x.firm(0, 5).is(10);
            // 1 has nothing and pays all the same.
            x.dial(0, 2, Portinghall.ALL_CALL).is(Portinghall.ARRIVED);
            x.firm(1, 5).is(-13);
            x.firm(0, 5).is(13);
            x.firm(2, 5).is(0);
        });
        Edge.of(21, "6 how many changes it does not know", x -> {
            x.withNumbers();
            x.firm(2, 6).is(0);
            x.move(0, 1, 3);
            x.firm(2, 6).is(1);
            x.firm(3, 6).is(0);
            x.move(0, 4, 3);
            x.move(1, 1);
            x.firm(2, 6).is(3);
            x.firm(3, 6).is(1);
            x.end(0);
            x.firm(2, 6).is(4);
            x.correct(2);
            x.firm(2, 6).is(0);
        });
        Edge.of(21, "Tells of a firm.", x -> {
            x.withSixtyOrders();
            for (int firm = 0; firm < 6; firm++) {
                x.setDown(firm, true);
            }
            x.pass(100);
            x.pass(19);
            for (int order = 0; order < 60; order++) {
                x.reverse(order).is(0);
            }
            // There and back: no table knows one of 120 changes, or errs by that.
            x.firm(2, 6).is(120);
            x.audit(2).is(0);
            x.firm(1, 5).is(0);
            x.correct(2).is(120);
            x.audit(2).is(0);
        });
        Edge.of(21, "Tells of a firm.", x -> {
            x.withSixtyOrders();
            x.setDown(5, true);
            x.pass(100);
            x.pass(19);
            for (int firm = 1; firm < 5; firm++) {
                x.endFirm(firm, firm + 1).is(60);
            }
            for (int number = 0; number < 60; number++) {
                x.end(number).is(5);
            }
            // Nearly as many changes as there can be: 60 there, 240 by ends of firms, 60 back home.
            x.firm(5, 6).is(360);
            x.known(5, 59).is(0);
            x.correct(5).is(360);
            x.known(5, 59).is(0);
        });
    }

    private static void known() {
        Edge.of(22, "`firm`: 0 to 5", x -> {
            x.withNumbers();
            x.move(0, 3, 0, 5);
            for (int bad : Edge.NO_FIRMS) {
                x.known(bad, 0).noIndex();
                x.known(bad, 100).noIndex();
            }
            x.known(0, 0).is(3);
            x.known(5, 0).is(3);
            x.known(1, 0).is(0);
        });
        Edge.of(22, "`number`: 0 to 199", x -> {
            x.give(0, 3);
            x.give(19, 2);
            for (int bad : Edge.NO_NUMBERS) {
                x.known(0, bad).noIndex();
            }
            x.known(0, 0).is(3);
            x.known(0, 199).is(2);
        });
        Edge.of(22, "Throws `IndexOutOfBoundsException` if there is no such firm or number", x -> {
            x.known(-1, -1).noIndex();
            x.known(6, 200).noIndex();
        });
        Edge.of(22, "Returns the firm; NONE if its block is not given.", x -> {
            x.known(0, 0).is(NONE);
            x.give(0, 4);
            x.known(0, 0).is(4);
            x.known(0, 10).is(NONE);
            x.known(4, 0).is(4);
            x.giveBack(0);
            x.known(0, 0).is(NONE);
        });
        Edge.of(22, "Returns the firm; NONE if its block is not given.", x -> {
            x.give(0, 0);
            x.assign(0, 5);
            x.move(0, 3, 2);
            x.setDown(2, true);
            x.end(0);
            x.pass(100);
            // An old table names a firm, whatever became of the number.
            x.known(2, 0).is(3);
            x.giveBack(0);
            x.known(2, 0).is(NONE);
            x.give(0, 5);
            x.known(2, 0).is(3);
            x.known(1, 0).is(5);
            x.correct(2).is(1);
            x.known(2, 0).is(5);
        });
    }

    private static void knownTables() {
        Edge.of(22, "By its table a number is with the firm of the last change of the number that it knows", x -> {
            x.withNumbers();
            x.move(0, 1, ALL);
            x.move(1, 3, ALL);
            x.move(0, 4, ALL);
            x.move(0, 5, 0);
            x.known(2, 0).is(4);
            x.known(2, 1).is(3);
            x.known(0, 0).is(5);
        });
        Edge.of(22, "or with the holder, if that is HOME, or there is none (holders are known to all at once)", x -> {
            x.withNumbers();
            x.known(2, 0).is(0);
            x.move(0, 1, ALL);
            x.move(0, 0, ALL);
            for (int firm = 0; firm < 6; firm++) {
                x.setDown(firm, true);
            }
            x.known(2, 0).is(0);
            x.known(2, 1).is(0);
            x.endFirm(0, 3);
            // By HOME, and by no change.
            x.known(2, 0).is(3);
            x.known(2, 1).is(3);
            x.firm(2, 6).is(0);
        });
        Edge.of(22, "Tells with which firm a number is by the table of a firm.", x -> {
            x.withNumbers();
            x.move(0, 1, 1, 2);
            x.endFirm(1, 4);
            // A table may name a firm that is GONE, and a firm's own table itself.
            x.known(2, 0).is(1);
            x.known(1, 0).is(1);
            x.known(4, 0).is(0);
            x.correct(2);
            x.known(2, 0).is(4);
        });
    }

    private static void audit() {
        Edge.of(23, "`firm`: 0 to 5", x -> {
            x.withNumbers();
            x.move(0, 3, 0);
            for (int bad : Edge.NO_FIRMS) {
                x.audit(bad).noIndex();
            }
            x.audit(0).is(0);
            x.audit(5).is(1);
        });
        Edge.of(23, "Throws `IndexOutOfBoundsException` if there is no such firm", x -> {
            x.audit(-1).noIndex();
            x.audit(6).noIndex();
        });
        Edge.of(23, "Counts the numbers in use that are not with the firm that serves them, by the table of a firm.", x -> {
            x.withNumbers();
            x.audit(2).is(0);
            x.move(0, 1);
            x.move(9, 1);
            x.audit(2).is(2);
            x.end(0);
            x.audit(2).is(1);
            x.correct(2);
            x.audit(2).is(0);
            x.reverse(1);
            x.audit(2).is(1);
            x.audit(3).is(0);
            x.endFirm(0, 4);
            x.audit(2).is(1);
            x.audit(3).is(0);
        });
        Edge.of(23, "Returns how many.", x -> {
            for (int block = 14; block < 20; block++) {
                x.give(block, 0);
            }
            for (int number = 140; number < 200; number++) {
                x.assign(number, 5);
            }
            for (int order = 0; order < 60; order++) {
                x.order(1, 140 + order, 5, 100 + order / 3);
            }
            x.setDown(2, true);
            x.pass(100);
            x.audit(2).is(3);
            x.pass(19);
            x.audit(2).is(60);
            x.audit(3).is(0);
        });
        Edge.of(23, "Returns how many.", x -> {
            x.audit(0).is(0);
            x.give(0, 0);
            x.assign(0, 5);
            x.move(0, 1, 2);
            x.end(0);
            // Wrong by all tables, but not in use.
            x.audit(2).is(0);
            x.pass(100);
            x.setDown(2, true);
            x.assign(0, 5);
            x.audit(2).is(0);
            x.audit(3).is(0);
        });
        Edge.of(23, "Counts the numbers in use that are not with the firm that serves them", x -> {
            x.give(0, 0);
            x.assign(0, 5);
            x.move(0, 1, 2);
            x.end(0);
            x.setDown(2, true);
            x.pass(100);
            x.assign(0, 5);
            // In use again, and by an old table with another firm.
            x.audit(2).is(1);
            x.known(2, 0).is(1);
            x.audit(0).is(0);
        });
    }
}
