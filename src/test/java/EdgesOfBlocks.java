/** The edges of promises 1 to 8, and of what the terms say of blocks and contracts. */
final class EdgesOfBlocks {
    private static final int NONE = Edge.NONE;

    private EdgesOfBlocks() {
    }

    static void run() {
        newObject();
        blocksOfNumbers();
        give();
        giveBack();
        assign();
        assignQuarantine();
        end();
        endChanges();
        swap();
        swapSilence();
        emergency();
        endFirm();
        endFirmChanges();
        endFirmOrders();
        endFirmToTheLast();
    }

    private static void newObject() {
        Edge.of(1, "The minute 0; no block is given, no firm is gone or down, lags are 0.", x -> {
            x.minute().is(0);
            for (int number = 0; number < 200; number++) {
                x.number(number, 0).is(NONE);
            }
            for (int firm = 0; firm < 6; firm++) {
                for (int what = 0; what < 7; what++) {
                    x.firm(firm, what).is(0);
                }
                x.known(firm, 0).is(NONE);
                x.known(firm, 199).is(NONE);
                x.audit(firm).is(0);
            }
        });
        Edge.of(1, "A number is in use, or not", x -> {
            for (int number = 0; number < 200; number++) {
                x.server(number).is(NONE);
                x.serverAnew(number).is(NONE);
            }
        });
        Edge.of(1, "When it is not in use any more, it is in quarantine", x -> {
            for (int number = 0; number < 200; number++) {
                x.number(number, 1).is(0);
            }
        });
        Edge.of(1, "Orders are numbered from 0", x -> {
            x.of(0, 0).noIndex();
            x.cancel(0).noIndex();
            x.reverse(0).noIndex();
            x.number(0, 4).is(NONE);
            x.number(199, 4).is(NONE);
            x.number(0, 2).is(0);
            x.number(199, 2).is(0);
            x.number(0, 3).is(0);
            x.number(199, 3).is(0);
            x.room(1).is(3);
        });
        Edge.of(1, "A firm may be GONE.", x -> {
            Portinghall other = new Portinghall();
            other.give(0, 1);
            other.endFirm(1, 2);
            other.setDown(3, true);
            other.setLag(3, 9);
            other.pass(7);
            // Nothing of one object may be seen in another one.
            x.minute().is(0);
            x.number(0, 0).is(NONE);
            x.firm(1, 0).is(0);
            x.firm(3, 3).is(0);
            x.firm(3, 4).is(0);
        });
    }

    private static void blocksOfNumbers() {
        Edge.of(2, "the block of a number is the number divided by 10, rounded down", x -> {
            x.give(0, 1);
            x.give(2, 2);
            x.give(19, 3);
            x.number(0, 0).is(1);
            x.number(9, 0).is(1);
            x.number(10, 0).is(NONE);
            x.number(19, 0).is(NONE);
            x.number(20, 0).is(2);
            x.number(29, 0).is(2);
            x.number(30, 0).is(NONE);
            x.number(189, 0).is(NONE);
            x.number(190, 0).is(3);
            x.number(199, 0).is(3);
        });
        Edge.of(2, "A block is given to a firm, its holder, or to none.", x -> {
            x.number(100, 0).is(NONE);
            x.give(10, 4);
            x.number(100, 0).is(4);
            x.giveBack(10);
            x.number(100, 0).is(NONE);
            x.known(0, 100).is(NONE);
        });
    }

    private static void give() {
        Edge.of(2, "`block`: 0 to 19", x -> {
            x.give(0, 3).is(1);
            x.give(19, 3).is(2);
            for (int bad : Edge.NO_BLOCKS) {
                x.give(bad, 3).noIndex();
            }
        });
        Edge.of(2, "`firm`: 0 to 5", x -> {
            x.give(0, 0).is(1);
            x.give(1, 5).is(1);
            for (int bad : Edge.NO_FIRMS) {
                x.give(2, bad).noIndex();
            }
        });
        Edge.of(2, "Gives a block.", x -> {
            x.give(7, 4).is(1);
            x.number(70, 0).is(4);
            x.number(79, 0).is(4);
            x.firm(4, 1).is(1);
            x.firm(4, 6).is(0);
            x.known(2, 75).is(4);
        });
        Edge.of(2, "Returns how many blocks the firm holds then.", x -> {
            for (int block = 0; block < 20; block++) {
                x.give(block, 5).is(block + 1);
            }
            x.give(0, 5).noState();
            x.give(19, 4).noState();
            x.giveBack(19).is(5);
            x.give(19, 4).is(1);
            x.giveBack(0).is(5);
            x.give(0, 5).is(19);
        });
        Edge.of(2, "Returns how many blocks the firm holds then.", x -> {
            x.give(0, 1).is(1);
            x.give(1, 2).is(1);
            x.give(2, 1).is(2);
            x.endFirm(1, 2).is(0);
            x.give(3, 2).is(4);
        });
        Edge.of(2, "Throws `IndexOutOfBoundsException` if there is no such block or firm", x -> {
            x.give(0, 1);
            x.endFirm(2, 1);
            x.give(-1, -1).noIndex();
            x.give(20, 6).noIndex();
            // It comes ahead of the other exception.
            x.give(0, 6).noIndex();
            x.give(0, -1).noIndex();
            x.give(20, 2).noIndex();
            x.give(-1, 2).noIndex();
        });
        Edge.of(2, "Throws `IllegalStateException` if it is given, or the firm is GONE", x -> {
            x.give(5, 1).is(1);
            x.give(5, 1).noState();
            x.give(5, 0).noState();
            x.endFirm(1, 3);
            x.give(5, 3).noState();
            x.give(5, 1).noState();
            x.give(6, 1).noState();
            x.give(6, 3).is(2);
        });
        Edge.of(2, "No firm that is GONE can hold or win anything any more.", x -> {
            x.endFirm(0, 1);
            x.endFirm(5, 1);
            x.give(0, 0).noState();
            x.give(19, 5).noState();
            x.order(0, 0, 5, 10).noState();
            x.order(5, 0, 5, 10).noState();
            x.endFirm(2, 0).noState();
            x.endFirm(2, 5).noState();
            x.pass(100);
            x.give(0, 0).noState();
        });
    }

    private static void giveBack() {
        Edge.of(3, "`block`: 0 to 19", x -> {
            x.give(0, 2);
            x.give(19, 2);
            for (int bad : Edge.NO_BLOCKS) {
                x.giveBack(bad).noIndex();
            }
            x.giveBack(0).is(2);
            x.giveBack(19).is(2);
        });
        Edge.of(3, "Throws `IndexOutOfBoundsException` if there is no such block", x -> {
            x.giveBack(-1).noIndex();
            x.giveBack(20).noIndex();
        });
        Edge.of(3, "Gives a block back.", x -> {
            x.give(4, 1);
            x.give(5, 1);
            x.giveBack(4).is(1);
            x.number(40, 0).is(NONE);
            x.number(50, 0).is(1);
            x.firm(1, 1).is(1);
            x.assign(40, 5).noState();
            x.firm(0, 6).is(0);
        });
        Edge.of(3, "Returns the firm that held it.", x -> {
            x.give(0, 0);
            x.give(1, 5);
            x.give(2, 3);
            x.endFirm(3, 4);
            x.giveBack(0).is(0);
            x.giveBack(1).is(5);
            x.giveBack(2).is(4);
        });
        Edge.of(3, "if it is not given", x -> {
            x.giveBack(0).noState();
            x.give(0, 1);
            x.giveBack(0).is(1);
            x.giveBack(0).noState();
            x.giveBack(1).noState();
        });
        Edge.of(3, "one of its numbers is in use", x -> {
            for (int block = 4; block < 7; block++) {
                x.give(block, 1);
            }
            x.assign(49, 5);
            x.assign(60, 5);
            x.giveBack(4).noState();
            x.giveBack(6).noState();
            x.giveBack(5).is(1);
            x.giveBack(4).noState();
        });
        for (int number : new int[] {0, 9, 190, 195, 199}) {
            Edge.of(3, "Throws `IllegalStateException` if it is not given, or one of its numbers is in use, or in quarantine", x -> {
                x.give(number / 10, 1);
                x.assign(number, 5);
                x.giveBack(number / 10).noState();
                x.end(number);
                x.giveBack(number / 10).noState();
                x.pass(99);
                x.giveBack(number / 10).noState();
                x.pass(1);
                x.giveBack(number / 10).is(1);
            });
        }
        Edge.of(3, "one of its numbers is in use", x -> {
            x.withNumbers();
            for (int number = 0; number < 9; number++) {
                x.end(number);
            }
            x.move(9, 3, 0);
            x.pass(99);
            // All but one are free, and that one is with another firm.
            x.giveBack(0).noState();
            x.end(9);
            x.pass(99);
            x.giveBack(0).noState();
            x.pass(1);
            x.giveBack(0).is(0);
        });
    }

    private static void assign() {
        Edge.of(4, "`number`: 0 to 199", x -> {
            x.give(0, 3);
            x.give(19, 2);
            x.assign(0, 5).is(3);
            x.assign(199, 5).is(2);
            for (int bad : Edge.NO_NUMBERS) {
                x.assign(bad, 5).noIndex();
            }
        });
        Edge.of(4, "`secret`: 0 to 99", x -> {
            x.give(0, 3);
            x.assign(0, 0).is(3);
            x.assign(1, 99).is(3);
            for (int bad : Edge.NO_SECRETS) {
                x.assign(2, bad).noArgument();
            }
            x.swap(0, 1).is(0);
            x.swap(1, 1).is(99);
        });
        Edge.of(4, "one in use is served by one firm, and has a secret, 0 to 99", x -> {
            x.give(0, 3);
            x.assign(0, 42);
            x.order(1, 0, 41, 10);
            x.of(0, 1).is(3);
            x.order(1, 0, 43, 10);
            x.of(1, 1).is(3);
            x.order(1, 0, 42, 10);
            x.of(2, 0).is(Portinghall.WAITING);
        });
        Edge.of(4, "Makes a contract", x -> {
            x.give(0, 1);
            x.give(1, 2);
            x.server(9).is(NONE);
            x.assign(9, 5).is(1);
            x.server(9).is(1);
            x.serverAnew(9).is(1);
            x.server(8).is(NONE);
            x.assign(10, 5).is(2);
            x.firm(1, 2).is(1);
            x.firm(2, 2).is(1);
            x.number(9, 2).is(0);
            x.number(9, 3).is(0);
            x.firm(0, 6).is(0);
            x.audit(0).is(0);
        });
        Edge.of(4, "Returns the firm.", x -> {
            x.give(0, 0);
            x.give(1, 5);
            x.assign(0, 5).is(0);
            x.assign(10, 5).is(5);
            x.endFirm(5, 4);
            x.assign(11, 5).is(4);
            x.server(11).is(4);
        });
        Edge.of(4, "Throws `IndexOutOfBoundsException` if there is no such number", x -> {
            for (int bad : Edge.NO_NUMBERS) {
                x.assign(bad, -1).noIndex();
                x.assign(bad, 100).noIndex();
            }
        });
        Edge.of(4, "Throws `IllegalArgumentException` if secret is out of range", x -> {
            x.give(0, 0);
            x.assign(0, 5);
            x.assign(1, 5);
            x.end(1);
            for (int bad : new int[] {-1, 100}) {
                // Ahead of: in use, in quarantine, of no block.
                x.assign(0, bad).noArgument();
                x.assign(1, bad).noArgument();
                x.assign(10, bad).noArgument();
            }
        });
        Edge.of(4, "its block is not given, it is in use", x -> {
            x.assign(0, 5).noState();
            x.give(0, 0);
            x.assign(10, 5).noState();
            x.assign(0, 5).is(0);
            x.assign(0, 5).noState();
            x.assign(0, 6).noState();
            x.move(0, 1, 2);
            x.assign(0, 5).noState();
            x.server(0).is(1);
        });
    }

    private static void assignQuarantine() {
        Edge.of(4, "Throws `IllegalStateException` if its block is not given, it is in use, or in quarantine", x -> {
            x.give(0, 0);
            x.assign(3, 5);
            x.pass(7);
            x.end(3);
            x.assign(3, 5).noState();
            x.pass(1);
            x.assign(3, 5).noState();
            x.pass(98);
            x.assign(3, 5).noState();
            x.pass(1);
            x.assign(3, 6).is(0);
            x.swap(3, 7).is(6);
        });
        Edge.of(4, "When it is not in use any more, it is in quarantine, in that minute and the next 99.", x -> {
            x.give(0, 0);
            x.assign(3, 5);
            x.number(3, 1).is(0);
            x.end(3);
            x.number(3, 1).is(1);
            x.pass(99);
            x.number(3, 1).is(1);
            x.pass(1);
            x.number(3, 1).is(0);
            x.assign(3, 5);
            x.number(3, 1).is(0);
            x.end(3);
            x.number(3, 1).is(1);
            x.pass(99);
            x.number(3, 1).is(1);
            x.assign(3, 5).noState();
            x.pass(1);
            x.assign(3, 5).is(0);
        });
        Edge.of(4, "When it is not in use any more, it is in quarantine, in that minute and the next 99.", x -> {
            x.give(0, 0);
            x.assign(3, 5);
            x.assign(4, 5);
            x.passTo(9899);
            x.end(3);
            x.pass(1);
            x.end(4);
            x.passTo(9998);
            x.number(3, 1).is(1);
            x.pass(1);
            // 9999 is the last minute there is.
            x.number(3, 1).is(0);
            x.number(4, 1).is(1);
            x.assign(4, 5).noState();
            x.assign(3, 5).is(0);
        });
    }

    private static void end() {
        Edge.of(5, "`number`: 0 to 199", x -> {
            x.give(0, 3);
            x.give(19, 2);
            x.assign(0, 5);
            x.assign(199, 5);
            for (int bad : Edge.NO_NUMBERS) {
                x.end(bad).noIndex();
            }
            x.end(0).is(3);
            x.end(199).is(2);
        });
        Edge.of(5, "Throws `IndexOutOfBoundsException` if there is no such number", x -> {
            x.end(-1).noIndex();
            x.end(200).noIndex();
        });
        Edge.of(5, "Returns the firm that served it.", x -> {
            x.withNumbers();
            x.move(1, 5, 0);
            x.end(0).is(0);
            x.end(1).is(5);
            x.endFirm(0, 4);
            x.end(2).is(4);
        });
        Edge.of(5, "Ends a contract.", x -> {
            x.withNumbers();
            x.end(0).is(0);
            x.server(0).is(NONE);
            x.serverAnew(0).is(NONE);
            x.server(1).is(0);
            x.firm(0, 2).is(9);
            x.firm(0, 5).is(0);
            x.number(0, 0).is(0);
        });
        Edge.of(5, "Throws `IllegalStateException` if it is not in use", x -> {
            x.end(0).noState();
            x.give(0, 0);
            x.end(0).noState();
            x.assign(0, 5);
            x.end(0).is(0);
            x.end(0).noState();
            x.pass(100);
            x.end(0).noState();
        });
        Edge.of(5, "Both end with the contract.", x -> {
            x.withNumbers();
            x.swap(0, 5);
            x.emergency(0);
            x.swap(1, 5);
            x.emergency(1);
            x.end(0);
            x.number(0, 2).is(0);
            x.number(0, 3).is(0);
            x.number(1, 2).is(1);
            x.number(1, 3).is(1);
        });
        Edge.of(5, "When a contract ends, the number is not in use any more, and an order that is WAITING for it is CANCELLED.", x -> {
            x.withNumbers();
            x.order(1, 0, 5, 1);
            x.order(1, 1, 5, 1);
            x.order(1, 0, 4, 1);
            x.end(0);
            // Less than 10 minutes ahead, where nobody can cancel it.
            x.of(0, 0).is(Portinghall.CANCELLED);
            x.of(1, 0).is(Portinghall.WAITING);
            x.of(2, 0).is(Portinghall.REJECTED);
            x.number(0, 4).is(NONE);
            x.room(1).is(2);
            x.pass(1).is(1);
            x.end(1).is(1);
            x.of(1, 0).is(Portinghall.DONE);
            x.firm(1, 5).is(-5);
        });
        Edge.of(5, "When a contract ends, the number is not in use any more, and an order that is WAITING for it is CANCELLED.", x -> {
            x.withSixtyOrders();
            x.end(59).is(0);
            x.of(58, 0).is(Portinghall.WAITING);
            x.of(59, 0).is(Portinghall.CANCELLED);
            x.end(0).is(0);
            x.of(0, 0).is(Portinghall.CANCELLED);
            x.of(1, 0).is(Portinghall.WAITING);
            x.pass(100).is(2);
        });
        Edge.of(5, "When a contract ends, the number is not in use any more, and an order that is WAITING for it is CANCELLED.", x -> {
            x.withNumbers();
            x.order(1, 0, 5, 10);
            x.pass(10);
            x.reverse(0);
            x.end(0);
            x.of(0, 0).is(Portinghall.REVERSED);
            x.of(0, 4).is(0);
        });
    }

    private static void endChanges() {
        Edge.of(5, "and HOME when a number that its holder did not serve is not in use any more", x -> {
            x.withNumbers();
            x.move(0, 1, 0, 1, 2, 3, 4, 5);
            x.end(1);
            x.firm(2, 6).is(0);
            x.end(0);
            x.firm(2, 6).is(1);
            x.known(2, 0).is(1);
            x.correct(2).is(1);
            x.known(2, 0).is(0);
        });
        Edge.of(5, "HOME, which is the holder of its block, whoever that is", x -> {
            x.withNumbers();
            x.move(0, 1, 0, 1, 2, 3, 4, 5);
            x.end(0);
            x.pass(1);
            x.known(2, 0).is(0);
            x.endFirm(0, 3);
            x.known(2, 0).is(3);
            x.endFirm(3, 4);
            x.known(2, 0).is(4);
        });
        Edge.of(5, "and HOME when a number that its holder did not serve is not in use any more", x -> {
            x.withNumbers();
            x.move(0, 1, 0, 1, 2, 3, 4, 5);
            x.move(0, 0, 0, 1, 2, 3, 4, 5);
            // Its holder serves it again.
            x.end(0);
            x.firm(2, 6).is(0);
            x.move(1, 1, 0, 1, 2, 3, 4, 5);
            x.endFirm(0, 1);
            x.correct(2).is(1);
            // Now 1 holds its block too.
            x.end(1);
            x.firm(2, 6).is(0);
        });
    }

    private static void swap() {
        Edge.of(6, "`number`: 0 to 199", x -> {
            x.give(0, 3);
            x.give(19, 2);
            x.assign(0, 5);
            x.assign(199, 6);
            x.swap(0, 7).is(5);
            x.swap(199, 8).is(6);
            for (int bad : Edge.NO_NUMBERS) {
                x.swap(bad, 5).noIndex();
            }
        });
        Edge.of(6, "`secret`: 0 to 99", x -> {
            x.withNumbers();
            x.swap(0, 0).is(5);
            x.swap(0, 99).is(0);
            for (int bad : Edge.NO_SECRETS) {
                x.swap(0, bad).noArgument();
            }
            x.swap(0, 1).is(99);
        });
        Edge.of(6, "Returns the secret ahead of that.", x -> {
            x.withNumbers();
            x.swap(0, 6).is(5);
            x.swap(0, 6).is(6);
            x.swap(0, 0).is(6);
            x.swap(1, 0).is(5);
        });
        Edge.of(6, "Swaps the card of a number.", x -> {
            x.withNumbers();
            x.swap(0, 6);
            x.order(1, 0, 5, 10);
            x.of(0, 1).is(3);
            x.pass(50);
            x.order(1, 0, 5, 100);
            x.of(1, 1).is(3);
            x.order(1, 0, 6, 100);
            x.of(2, 0).is(Portinghall.WAITING);
            x.server(0).is(0);
            x.firm(0, 6).is(0);
        });
        Edge.of(6, "Throws `IndexOutOfBoundsException` if there is no such number", x -> {
            for (int bad : Edge.NO_NUMBERS) {
                x.swap(bad, -1).noIndex();
                x.swap(bad, 100).noIndex();
            }
        });
        Edge.of(6, "Throws `IllegalArgumentException` if secret is out of range", x -> {
            x.give(0, 0);
            x.swap(0, -1).noArgument();
            x.swap(0, 100).noArgument();
            x.swap(199, 100).noArgument();
        });
        Edge.of(6, "Throws `IllegalStateException` if it is not in use", x -> {
            x.swap(0, 5).noState();
            x.give(0, 0);
            x.swap(0, 5).noState();
            x.assign(0, 5);
            x.end(0);
            x.swap(0, 5).noState();
            x.number(0, 2).is(0);
            x.pass(100);
            x.swap(0, 5).noState();
        });
    }

    private static void swapSilence() {
        Edge.of(6, "it is silent in that minute and the next 49", x -> {
            x.withNumbers();
            x.number(0, 2).is(0);
            x.pass(3);
            x.swap(0, 6);
            x.number(0, 2).is(1);
            x.number(1, 2).is(0);
            x.pass(49);
            x.number(0, 2).is(1);
            x.order(1, 0, 6, 100);
            x.of(0, 1).is(5);
            x.pass(1);
            x.number(0, 2).is(0);
            x.order(1, 0, 6, 100);
            x.of(1, 0).is(Portinghall.WAITING);
        });
        Edge.of(6, "it is silent in that minute and the next 49", x -> {
            x.withNumbers();
            x.swap(0, 6);
            x.pass(49);
            x.swap(0, 6);
            x.pass(49);
            x.number(0, 2).is(1);
            x.pass(1);
            x.number(0, 2).is(0);
        });
        Edge.of(6, "A card that is swapped gives a number another secret", x -> {
            x.withNumbers();
            x.order(1, 0, 5, 10);
            x.swap(0, 6);
            // An order that waits already is not stopped by a card.
            x.pass(10).is(1);
            x.server(0).is(1);
            x.number(0, 2).is(1);
            // The secret and the silence go with the number.
            x.order(2, 0, 6, 100);
            x.of(1, 1).is(5);
            x.swap(0, 7).is(6);
        });
    }

    private static void emergency() {
        Edge.of(7, "`number`: 0 to 199", x -> {
            x.give(0, 3);
            x.give(19, 2);
            x.assign(0, 5);
            x.assign(199, 5);
            x.emergency(0).is(30);
            x.emergency(199).is(30);
            for (int bad : Edge.NO_NUMBERS) {
                x.emergency(bad).noIndex();
            }
        });
        Edge.of(7, "Throws `IndexOutOfBoundsException` if there is no such number", x -> {
            x.emergency(-1).noIndex();
            x.emergency(200).noIndex();
        });
        Edge.of(7, "Throws `IllegalStateException` if it is not in use", x -> {
            x.emergency(0).noState();
            x.give(0, 0);
            x.emergency(0).noState();
            x.assign(0, 5);
            x.end(0);
            x.emergency(0).noState();
            x.number(0, 3).is(0);
            x.pass(100);
            x.emergency(0).noState();
        });
        Edge.of(7, "Returns the last minute in which it may be called back.", x -> {
            x.withNumbers();
            x.emergency(0).is(30);
            x.pass(7);
            x.emergency(0).is(37);
            x.emergency(1).is(37);
            x.pass(30);
            x.number(0, 3).is(1);
            x.pass(1);
            x.number(0, 3).is(0);
            x.passTo(9999);
            x.emergency(0).is(10029);
            x.number(0, 3).is(1);
        });
        Edge.of(7, "An emergency call lets a number be called back in that minute and the next 30.", x -> {
            x.withNumbers();
            x.number(0, 3).is(0);
            x.emergency(0);
            x.number(0, 3).is(1);
            x.number(1, 3).is(0);
            x.pass(30);
            x.number(0, 3).is(1);
            x.emergency(0).is(60);
            x.pass(30);
            x.number(0, 3).is(1);
            x.pass(1);
            x.number(0, 3).is(0);
        });
        Edge.of(7, "Lets an emergency call go from a number.", x -> {
            x.withNumbers();
            x.move(0, 3, 0);
            x.emergency(0).is(31);
            x.firm(0, 5).is(5);
            x.firm(3, 5).is(-5);
            x.firm(3, 6).is(1);
            x.server(0).is(3);
        });
    }

    private static void endFirm() {
        Edge.of(8, "`firm`: 0 to 5", x -> {
            for (int bad : Edge.NO_FIRMS) {
                x.endFirm(bad, 1).noIndex();
            }
            x.endFirm(0, 1).is(0);
            x.endFirm(5, 1).is(0);
            x.firm(0, 0).is(1);
            x.firm(5, 0).is(1);
        });
        Edge.of(8, "`heir`: another one", x -> {
            for (int bad : Edge.NO_FIRMS) {
                x.endFirm(1, bad).noIndex();
            }
            x.endFirm(1, 1).noArgument();
            x.endFirm(1, 0).is(0);
            x.endFirm(2, 5).is(0);
        });
        Edge.of(8, "Throws `IndexOutOfBoundsException` if there is no such firm, of either", x -> {
            x.endFirm(2, 3);
            for (int bad : Edge.NO_FIRMS) {
                // Ahead of: both are the same, one of them is GONE.
                x.endFirm(bad, bad).noIndex();
                x.endFirm(2, bad).noIndex();
                x.endFirm(bad, 2).noIndex();
            }
        });
        Edge.of(8, "Throws `IllegalArgumentException` if both are the same", x -> {
            for (int firm = 0; firm < 6; firm++) {
                x.endFirm(firm, firm).noArgument();
            }
            x.endFirm(4, 3);
            x.endFirm(4, 4).noArgument();
        });
        Edge.of(8, "Throws `IllegalStateException` if one of them is GONE", x -> {
            x.give(0, 1);
            x.endFirm(4, 3).is(0);
            x.endFirm(4, 3).noState();
            x.endFirm(4, 0).noState();
            x.endFirm(1, 4).noState();
            x.endFirm(3, 4).noState();
            x.endFirm(5, 3);
            x.endFirm(4, 5).noState();
        });
        Edge.of(8, "Returns how many numbers the heir comes to serve by that.", x -> {
            x.withNumbers();
            x.give(1, 1);
            x.assign(10, 5);
            x.assign(11, 5);
            x.move(0, 2, 0);
            x.move(10, 0, 0);
            x.end(9);
            // 0 serves 1 to 8 and 10; it holds the number 0, which 2 serves.
            x.endFirm(5, 0).is(0);
            x.endFirm(0, 2).is(9);
            x.endFirm(2, 1).is(10);
            x.firm(1, 2).is(11);
        });
        Edge.of(8, "first the blocks that it holds are those of the heir; then the heir serves all numbers that it served", x -> {
            x.give(0, 2);
            x.give(19, 2);
            x.give(1, 3);
            x.assign(0, 5);
            x.assign(199, 5);
            x.assign(10, 5);
            x.endFirm(2, 4).is(2);
            x.number(0, 0).is(4);
            x.number(199, 0).is(4);
            x.number(10, 0).is(3);
            x.server(0).is(4);
            x.server(199).is(4);
            x.server(10).is(3);
            x.serverAnew(199).is(4);
            x.server(1).is(NONE);
            x.firm(2, 1).is(0);
            x.firm(2, 2).is(0);
            x.firm(4, 1).is(2);
            x.firm(4, 2).is(2);
        });
        Edge.of(8, "Ends a firm.", x -> {
            x.withNumbers();
            x.move(0, 1, 0);
            x.setLag(1, 9);
            x.endFirm(1, 4);
            x.firm(1, 0).is(1);
            x.firm(4, 0).is(0);
            // An account, a lag and a table are nothing that an heir comes by.
            x.firm(1, 5).is(-5);
            x.firm(4, 5).is(0);
            x.firm(1, 4).is(9);
            x.firm(4, 4).is(0);
            x.firm(1, 3).is(1);
            x.firm(0, 6).is(1);
            x.firm(4, 6).is(2);
        });
        Edge.of(8, "A firm may be GONE.", x -> {
            x.withNumbers();
            x.swap(0, 6);
            x.emergency(0);
            x.end(1);
            x.endFirm(0, 4);
            // Contracts go on, and quarantines too.
            x.number(0, 2).is(1);
            x.number(0, 3).is(1);
            x.swap(0, 7).is(6);
            x.number(1, 1).is(1);
            x.assign(1, 5).noState();
            x.pass(100);
            x.assign(1, 5).is(4);
        });
    }

    /** The server and the holder ahead of the end of 1, whose heir is 2; 3 is another firm. */
    private static void endFirmChange(int server, int holder, int changes, int place) {
        Edge.of(8, "If a firm's end leaves a number in use with the holder of its block, as both are the heir's by then, "
            + "HOME comes if it was not served by its holder ahead of that act, also if the heir served it already; otherwise none comes.", x -> {
                x.give(0, holder);
                x.assign(7, 5);
                if (server != holder) {
                    x.move(7, server, 0, 1, 2, 3, 4, 5);
                }
                x.firm(0, 6).is(0);
                x.endFirm(1, 2).is(server == 1 ? 1 : 0);
                x.firm(0, 6).is(changes);
                x.correct(0).is(changes);
                int holderThen = holder == 1 ? 2 : holder;
                int serverThen = server == 1 ? 2 : server;
                x.server(7).is(serverThen);
                x.number(7, 0).is(holderThen);
                x.known(0, 7).is(serverThen);
                x.audit(0).is(0);
                if (holderThen == serverThen) {
                    // What stands for HOME goes with the block.
                    x.endFirm(2, 4).is(1);
                    x.firm(0, 6).is(0);
                    x.known(0, 7).is(4);
                } else {
                    // What stands for a firm does not.
                    x.endFirm(holderThen, 4).is(0);
                    x.firm(0, 6).is(0);
                    x.known(0, 7).is(place);
                }
            });
    }

    private static void endFirmChanges() {
        endFirmChange(1, 1, 0, 2);
        endFirmChange(2, 1, 1, 2);
        endFirmChange(1, 2, 1, 2);
        endFirmChange(2, 2, 0, 2);
        endFirmChange(1, 3, 1, 2);
        endFirmChange(2, 3, 0, 2);
        endFirmChange(3, 1, 0, 3);
        endFirmChange(3, 2, 0, 3);
        Edge.of(8, "also if the heir served it already", x -> {
            x.withNumbers();
            x.move(0, 1, 2);
            x.endFirm(0, 1).is(9);
            x.firm(2, 6).is(1);
            x.firm(3, 6).is(2);
            // By a table that says 1, and by one that says HOME, it is with 1.
            x.known(2, 0).is(1);
            x.known(3, 0).is(1);
            x.endFirm(1, 4).is(10);
            x.firm(2, 6).is(1);
            x.known(2, 0).is(1);
            x.known(3, 0).is(4);
            x.correct(2);
            x.known(2, 0).is(4);
        });
        Edge.of(8, "Several of one act come by rising numbers.", x -> {
            x.withNumbers();
            x.give(19, 1);
            x.assign(190, 5);
            x.assign(199, 5);
            x.move(9, 2, 0, 1, 2, 3, 4, 5);
            x.move(0, 2, 0, 1, 2, 3, 4, 5);
            x.move(199, 2, 0, 1, 2, 3, 4, 5);
            x.endFirm(2, 3).is(3);
            // They are all of one minute, so that a table learns all of them or none.
            x.firm(4, 6).is(3);
            x.pass(1);
            x.firm(4, 6).is(0);
            x.known(4, 0).is(3);
            x.known(4, 9).is(3);
            x.known(4, 199).is(3);
            x.known(4, 190).is(1);
        });
        Edge.of(8, "If a firm's end leaves a number in use", x -> {
            x.withNumbers();
            x.move(0, 1, 0, 1, 2, 3, 4, 5);
            x.end(0);
            x.correct(2).is(1);
            // Not in use: an end of a firm, of its holder or of who served it, brings nothing.
            x.endFirm(1, 3).is(0);
            x.firm(2, 6).is(0);
            x.endFirm(0, 3).is(9);
            x.firm(2, 6).is(0);
            x.known(2, 0).is(3);
            x.serverAnew(0).is(NONE);
        });
    }

    private static void endFirmOrders() {
        Edge.of(8, "then orders by which it would win are CANCELLED, if they are WAITING", x -> {
            x.withNumbers();
            x.order(1, 0, 5, 10);
            x.order(1, 1, 5, 1);
            x.order(1, 2, 4, 10);
            x.order(1, 3, 5, 1);
            x.order(2, 4, 5, 10);
            x.order(1, 5, 5, 100);
            x.order(1, 6, 5, 2);
            x.cancel(5);
            x.pass(1).is(2);
            x.reverse(3).is(0);
            x.endFirm(1, 3);
            x.of(0, 0).is(Portinghall.CANCELLED);
            x.of(1, 0).is(Portinghall.DONE);
            x.of(2, 0).is(Portinghall.REJECTED);
            x.of(3, 0).is(Portinghall.REVERSED);
            x.of(4, 0).is(Portinghall.WAITING);
            x.of(5, 0).is(Portinghall.CANCELLED);
            x.of(6, 0).is(Portinghall.CANCELLED);
            x.number(0, 4).is(NONE);
            x.room(10).is(2);
            x.pass(9).is(1);
        });
        Edge.of(8, "then orders by which it would win are CANCELLED, if they are WAITING", x -> {
            x.withSixtyOrders();
            x.endFirm(1, 2).is(0);
            for (int order = 0; order < 60; order++) {
                x.of(order, 0).is(Portinghall.CANCELLED);
            }
            x.pass(100).is(0);
            x.server(0).is(0);
        });
        Edge.of(8, "then orders by which it would win are CANCELLED, if they are WAITING", x -> {
            x.withNumbers();
            x.order(1, 0, 5, 10);
            x.order(2, 1, 5, 10);
            // Their donor ends, and one's winner is the heir: they wait all the same.
            x.endFirm(0, 1);
            x.of(0, 0).is(Portinghall.WAITING);
            x.of(1, 0).is(Portinghall.WAITING);
            x.pass(10).is(1);
            x.of(0, 0).is(Portinghall.CANCELLED);
            x.of(1, 0).is(Portinghall.DONE);
            x.of(1, 4).is(1);
        });
    }

    private static void endFirmToTheLast() {
        Edge.of(8, "When a firm ends, it is GONE, and another one is its heir", x -> {
            for (int block = 0; block < 20; block++) {
                x.give(block, 0).is(block + 1);
            }
            for (int number = 0; number < 200; number++) {
                x.assign(number, 5);
            }
            for (int firm = 0; firm < 5; firm++) {
                x.endFirm(firm, firm + 1).is(200);
            }
            for (int other = 0; other < 5; other++) {
                x.endFirm(5, other).noState();
            }
            x.endFirm(5, 5).noArgument();
            x.firm(5, 1).is(20);
            x.firm(5, 2).is(200);
            x.firm(5, 6).is(0);
            x.server(0).is(5);
            x.serverAnew(199).is(5);
            x.audit(0).is(0);
        });
    }
}
