/** The edges of promises 24 to 27, and of what the terms say of calls and of calls that throw. */
final class EdgesOfCalls {
    private static final int NONE = Edge.NONE;
    private static final int LOW = Edge.LOW;
    private static final int HIGH = Edge.HIGH;
    private static final int A = Portinghall.ALL_CALL;
    private static final int O = Portinghall.ONWARD;
    private static final int D = Portinghall.DROP_BACK;
    private static final int ARRIVED = Portinghall.ARRIVED;
    private static final int NO_BLOCK = Portinghall.NO_BLOCK;
    private static final int NOT_IN_USE = Portinghall.NOT_IN_USE;
    private static final int LOOP = Portinghall.LOOP;
    private static final int STUCK = Portinghall.STUCK;

    private EdgesOfCalls() {
    }

    static void run() {
        hop();
        why();
        noBlock();
        notInUse();
        arrived();
        gone();
        allCall();
        onward();
        dropBack();
        stuck();
        stuckDropBack();
        loop();
        longest();
        dial();
        dialPays();
        dialPaysNot();
        minute();
        exceptions();
        lastCall();
    }

    /** What the call is by why, and by each place of hop. */
    private static void goes(Land x, int firm, int number, int way, int ending, int... hops) {
        x.why(firm, number, way).is(ending);
        for (int place = 0; place <= hops.length; place++) {
            x.hop(firm, number, way, place).is(place < hops.length ? hops[place] : NONE);
        }
    }

    private static void hop() {
        Edge.of(24, "`firm`: 0 to 5", x -> {
            x.withNumbers();
            for (int bad : Edge.NO_FIRMS) {
                x.hop(bad, 0, A, 0).noIndex();
                x.hop(bad, 199, A, 0).noIndex();
            }
            x.hop(0, 0, A, 0).is(0);
            x.hop(5, 0, A, 0).is(5);
        });
        Edge.of(24, "`number`: 0 to 199", x -> {
            x.give(0, 3);
            x.give(19, 2);
            for (int bad : Edge.NO_NUMBERS) {
                x.hop(0, bad, A, 0).noIndex();
            }
            x.hop(0, 0, A, 1).is(3);
            x.hop(0, 199, A, 1).is(2);
        });
        Edge.of(24, "`way`: ALL_CALL to DROP_BACK", x -> {
            x.withNumbers();
            for (int bad : Edge.NO_WAYS) {
                x.hop(1, 0, bad, 0).noArgument();
                x.hop(1, 199, bad, 0).noArgument();
                x.hop(1, 0, bad, 99).noArgument();
            }
            x.hop(1, 0, 0, 1).is(0);
            x.hop(1, 0, 1, 1).is(0);
            x.hop(1, 0, 2, 1).is(0);
        });
        Edge.of(24, "`place`: 0 for the first one", x -> {
            x.withNumbers();
            x.hop(4, 0, A, -1).noIndex();
            x.hop(4, 0, A, LOW).noIndex();
            x.hop(4, 0, A, 0).is(4);
            x.hop(4, 0, A, 1).is(0);
        });
        Edge.of(24, "Returns the firm; NONE if there are not so many.", x -> {
            x.withNumbers();
            x.hop(4, 0, A, 2).is(NONE);
            x.hop(4, 0, A, 6).is(NONE);
            x.hop(4, 0, A, 7).is(NONE);
            x.hop(4, 0, A, HIGH).is(NONE);
            x.hop(0, 0, A, 1).is(NONE);
            x.hop(4, 199, A, 1).is(NONE);
            x.hop(4, 199, A, HIGH).is(NONE);
        });
        Edge.of(24, "Returns the firm; NONE if there are not so many.", x -> {
            x.withNumbers();
            x.move(0, 1, 5);
            x.move(0, 2, 1);
            // A long call first, of which the short one behind it may keep nothing.
            x.hop(5, 0, A, 2).is(2);
            x.hop(2, 0, A, 1).is(NONE);
            x.hop(2, 0, A, 2).is(NONE);
        });
        Edge.of(24, "Throws `IndexOutOfBoundsException` if there is no such firm or number, or place is below 0", x -> {
            for (int way : new int[] {-1, 3}) {
                x.hop(6, 0, way, 0).noIndex();
                x.hop(-1, 0, way, 0).noIndex();
                x.hop(0, 200, way, 0).noIndex();
                x.hop(0, -1, way, 0).noIndex();
                x.hop(0, 0, way, -1).noIndex();
            }
        });
        Edge.of(24, "Throws `IllegalArgumentException` if way is out of range", x -> {
            x.hop(0, 0, -1, 0).noArgument();
            x.hop(0, 0, 3, 0).noArgument();
        });
        Edge.of(24, "Returns a hop of a call, that does not go.", x -> {
            x.withNumbers();
            x.move(0, 1, 5);
            x.hop(5, 0, A, 1).is(1);
            x.firm(5, 5).is(0);
            x.firm(1, 5).is(-5);
        });
    }

    private static void why() {
        Edge.of(25, "`firm`: 0 to 5", x -> {
            x.withNumbers();
            for (int bad : Edge.NO_FIRMS) {
                x.why(bad, 0, A).noIndex();
                x.why(bad, 199, A).noIndex();
            }
            x.why(0, 0, A).is(ARRIVED);
            x.why(5, 0, A).is(ARRIVED);
        });
        Edge.of(25, "`number`: 0 to 199", x -> {
            x.give(0, 3);
            for (int bad : Edge.NO_NUMBERS) {
                x.why(0, bad, A).noIndex();
            }
            x.why(0, 0, A).is(NOT_IN_USE);
            x.why(0, 199, A).is(NO_BLOCK);
        });
        Edge.of(25, "`way`: ALL_CALL to DROP_BACK", x -> {
            x.withNumbers();
            for (int bad : Edge.NO_WAYS) {
                x.why(0, 0, bad).noArgument();
                x.why(0, 199, bad).noArgument();
            }
            x.why(1, 0, 0).is(ARRIVED);
            x.why(1, 0, 1).is(ARRIVED);
            x.why(1, 0, 2).is(ARRIVED);
        });
        Edge.of(25, "Throws `IndexOutOfBoundsException` if there is no such firm or number", x -> {
            for (int way : new int[] {-1, 3}) {
                x.why(6, 0, way).noIndex();
                x.why(-1, 0, way).noIndex();
                x.why(0, 200, way).noIndex();
                x.why(0, -1, way).noIndex();
            }
        });
        Edge.of(25, "Throws `IllegalArgumentException` if way is out of range", x -> {
            x.why(0, 0, -1).noArgument();
            x.why(0, 0, 3).noArgument();
        });
        Edge.of(25, "Tells how a call would end.", x -> {
            x.withNumbers();
            x.move(0, 1, 5);
            x.why(5, 0, A).is(ARRIVED);
            x.firm(5, 5).is(0);
            x.firm(1, 5).is(-5);
        });
        Edge.of(25, "Returns ARRIVED to STUCK.", x -> {
            x.withNumbers();
            x.end(1);
            x.move(0, 1, 2);
            x.move(0, 2, 1);
            x.move(0, 4);
            x.why(4, 0, A).is(ARRIVED);
            x.why(4, 10, A).is(NO_BLOCK);
            x.why(4, 1, A).is(NOT_IN_USE);
            x.why(1, 0, A).is(LOOP);
            x.why(5, 0, A).is(STUCK);
        });
    }

    private static void noBlock() {
        for (int way = A; way <= D; way++) {
            int by = way;
            Edge.of(25, "If the block is not given, that is all: NO_BLOCK.", x -> {
                x.give(18, 1);
                x.endFirm(4, 1);
                goes(x, 2, 199, by, NO_BLOCK, 2);
                goes(x, 2, 190, by, NO_BLOCK, 2);
                goes(x, 2, 189, by, NOT_IN_USE, 2, 1);
                // It comes ahead of STUCK.
                goes(x, 4, 199, by, NO_BLOCK, 4);
                x.giveBack(18);
                goes(x, 2, 189, by, NO_BLOCK, 2);
                goes(x, 1, 189, by, NO_BLOCK, 1);
            });
        }
    }

    private static void notInUse() {
        for (int way = A; way <= D; way++) {
            int by = way;
            Edge.of(25, "If the number is not in use, the holder is the second hop, unless it is the first one: NOT_IN_USE.", x -> {
                x.give(0, 0);
                x.assign(0, 5);
                x.move(0, 3, 2);
                x.endFirm(4, 1);
                x.end(0);
                // No table is asked, and GONE or not is not either.
                goes(x, 2, 0, by, NOT_IN_USE, 2, 0);
                goes(x, 3, 0, by, NOT_IN_USE, 3, 0);
                goes(x, 0, 0, by, NOT_IN_USE, 0);
                goes(x, 4, 0, by, NOT_IN_USE, 4, 0);
                goes(x, 2, 1, by, NOT_IN_USE, 2, 0);
                x.pass(100);
                goes(x, 2, 0, by, NOT_IN_USE, 2, 0);
            });
        }
    }

    private static void arrived() {
        for (int way = A; way <= D; way++) {
            int by = way;
            Edge.of(25, "Otherwise, at each hop: if that firm serves the number, it has ARRIVED.", x -> {
                x.withNumbers();
                x.move(0, 3, 0, 2);
                // At the first hop, whatever its table says, and at the holder.
                goes(x, 3, 0, by, ARRIVED, 3);
                goes(x, 0, 1, by, ARRIVED, 0);
                goes(x, 2, 1, by, ARRIVED, 2, 0);
                goes(x, 0, 0, by, ARRIVED, 0, 3);
            });
        }
        Edge.of(24, "It has hops, firms; the first one is that from which it goes.", x -> {
            x.withNumbers();
            for (int firm = 0; firm < 6; firm++) {
                x.hop(firm, 0, A, 0).is(firm);
                x.hop(firm, 199, O, 0).is(firm);
            }
        });
        Edge.of(25, "A call goes from a firm to a number by a way.", x -> {
            x.withNumbers();
            x.move(0, 3, 2);
            goes(x, 2, 0, A, ARRIVED, 2, 3);
            goes(x, 1, 0, A, STUCK, 1, 0);
            goes(x, 2, 1, A, ARRIVED, 2, 0);
            goes(x, 2, 0, O, STUCK, 2, 0);
        });
    }

    private static void gone() {
        Edge.of(25, "If that firm is GONE, it is STUCK.", x -> {
            x.withNumbers();
            x.endFirm(4, 3);
            x.correct(4);
            for (int way = A; way <= D; way++) {
                goes(x, 4, 0, way, STUCK, 4);
            }
        });
        Edge.of(25, "If that firm is GONE, it is STUCK.", x -> {
            x.withNumbers();
            x.move(0, 1, 2, 5);
            x.endFirm(1, 4);
            x.correct(1);
            x.correct(0);
            // 1 would know better, but is GONE; what comes to it, comes no farther.
            goes(x, 2, 0, A, STUCK, 2, 1);
            goes(x, 2, 0, D, STUCK, 2, 0, 1);
            goes(x, 2, 0, O, ARRIVED, 2, 0, 4);
            goes(x, 1, 0, A, STUCK, 1);
            goes(x, 1, 0, O, STUCK, 1);
            goes(x, 1, 0, D, STUCK, 1);
        });
    }

    /** By the table of 5 it is with 1, of 1 with 2, of 2 with 3, of 0 and 4 with the holder 0; 3 serves it. */
    private static void chain(Land x) {
        x.withNumbers();
        x.move(0, 1, 5);
        x.move(0, 2, 1);
        x.move(0, 3, 2);
    }

    private static void allCall() {
        Edge.of(25, "by ALL_CALL the firm with which the number is by the table of the firm of this hop", x -> {
            chain(x);
            goes(x, 5, 0, A, ARRIVED, 5, 1, 2, 3);
            goes(x, 1, 0, A, ARRIVED, 1, 2, 3);
            goes(x, 2, 0, A, ARRIVED, 2, 3);
            goes(x, 4, 0, A, STUCK, 4, 0);
            goes(x, 0, 0, A, STUCK, 0);
        });
    }

    private static void onward() {
        Edge.of(25, "by ONWARD likewise, but from the first hop the holder, if that is another firm", x -> {
            chain(x);
            // The holder first, though the table of 5 or 2 says something better.
            goes(x, 5, 0, O, STUCK, 5, 0);
            goes(x, 2, 0, O, STUCK, 2, 0);
            x.setDown(0, false);
            x.pass(1);
            goes(x, 5, 0, O, ARRIVED, 5, 0, 3);
            goes(x, 0, 0, O, ARRIVED, 0, 3);
        });
        Edge.of(25, "by ONWARD likewise, but from the first hop the holder, if that is another firm", x -> {
            x.withNumbers();
            x.move(0, 1, 0);
            x.move(0, 2, 1);
            x.move(0, 3, 2);
            // Behind the holder by tables, and from the holder as the first hop too.
            goes(x, 4, 0, O, ARRIVED, 4, 0, 1, 2, 3);
            goes(x, 0, 0, O, ARRIVED, 0, 1, 2, 3);
            goes(x, 1, 0, O, LOOP, 1, 0, 1);
        });
    }

    private static void dropBack() {
        Edge.of(25, "by DROP_BACK likewise, but from the first hop the holder, if that is another firm, "
            + "and from the holder, as the second hop, that by the table of the first hop.", x -> {
                chain(x);
                x.correct(0);
                goes(x, 5, 0, D, ARRIVED, 5, 0, 1, 2, 3);
                goes(x, 2, 0, D, ARRIVED, 2, 0, 3);
                // The holder as the first hop asks its own table.
                goes(x, 0, 0, D, ARRIVED, 0, 3);
            });
        Edge.of(25, "and from the holder, as the second hop, that by the table of the first hop", x -> {
            x.withNumbers();
            x.move(0, 1, 5);
            x.move(0, 0, 1);
            x.move(0, 2, 0);
            // As the third hop the holder asks its own table, but it was a hop already.
            goes(x, 5, 0, D, LOOP, 5, 0, 1, 0);
            goes(x, 5, 0, A, ARRIVED, 5, 1, 0, 2);
            goes(x, 0, 0, D, ARRIVED, 0, 2);
        });
        Edge.of(25, "and from the holder, as the second hop, that by the table of the first hop", x -> {
            x.withNumbers();
            x.move(0, 1, 0);
            x.move(0, 2, 1);
            x.move(0, 3, 2, 5);
            // Only from the holder: 1, as the second hop from 0, asks its own.
            goes(x, 0, 0, D, ARRIVED, 0, 1, 2, 3);
            goes(x, 5, 0, D, ARRIVED, 5, 0, 3);
            x.correct(1);
            goes(x, 0, 0, D, ARRIVED, 0, 1, 3);
        });
    }

    private static void stuck() {
        Edge.of(25, "If that is the firm of this hop (or, for DROP_BACK from the holder, the first hop), it is STUCK, without one more hop", x -> {
            x.withNumbers();
            x.move(0, 1, 5, 1);
            x.move(0, 3);
            // 1 knows only that it is with 1 itself; 0 and 4 know nothing.
            goes(x, 1, 0, A, STUCK, 1);
            goes(x, 5, 0, A, STUCK, 5, 1);
            goes(x, 0, 0, A, STUCK, 0);
            goes(x, 4, 0, A, STUCK, 4, 0);
            goes(x, 0, 0, O, STUCK, 0);
            goes(x, 4, 0, O, STUCK, 4, 0);
            goes(x, 1, 0, O, STUCK, 1, 0);
            goes(x, 0, 0, D, STUCK, 0);
            goes(x, 5, 0, D, STUCK, 5, 0, 1);
        });
    }

    private static void stuckDropBack() {
        Edge.of(25, "(or, for DROP_BACK from the holder, the first hop), it is STUCK, without one more hop", x -> {
            x.withNumbers();
            x.move(0, 5, 5);
            x.move(0, 1, 0);
            goes(x, 5, 0, D, STUCK, 5, 0);
            goes(x, 5, 0, O, ARRIVED, 5, 0, 1);
            goes(x, 5, 0, A, STUCK, 5);
        });
        Edge.of(25, "If that is the firm of this hop (or, for DROP_BACK from the holder, the first hop), it is STUCK", x -> {
            x.withNumbers();
            x.move(0, 1, 0);
            // The table of 4 says that it is with the holder, which is the firm of that hop.
            goes(x, 4, 0, D, STUCK, 4, 0);
            goes(x, 4, 0, O, ARRIVED, 4, 0, 1);
        });
        Edge.of(25, "if it was a hop already, that is one more hop, the last one: LOOP.", x -> {
            x.withNumbers();
            x.move(0, 5, 0);
            x.move(0, 1);
            // By ONWARD the first hop is one as any other.
            goes(x, 5, 0, O, LOOP, 5, 0, 5);
            // So it is by DROP_BACK, where it is not from the holder as the second hop.
            goes(x, 0, 0, D, LOOP, 0, 5, 0);
        });
    }

    private static void loop() {
        Edge.of(25, "if it was a hop already, that is one more hop, the last one: LOOP.", x -> {
            x.withNumbers();
            x.move(0, 1, 5, 4);
            x.move(0, 2, 1);
            x.move(0, 1, 2);
            x.move(0, 3);
            goes(x, 1, 0, A, LOOP, 1, 2, 1);
            goes(x, 2, 0, A, LOOP, 2, 1, 2);
            goes(x, 5, 0, A, LOOP, 5, 1, 2, 1);
            goes(x, 5, 0, D, LOOP, 5, 0, 1, 2, 1);
            // ONWARD does not come to them: the holder knows nothing.
            goes(x, 5, 0, O, STUCK, 5, 0);
            x.hop(1, 0, A, 4).is(NONE);
        });
        Edge.of(25, "if it was a hop already, that is one more hop, the last one: LOOP.", x -> {
            x.withNumbers();
            x.move(0, 1, 0);
            x.move(0, 2, 1);
            x.move(0, 0, 2);
            x.move(0, 3);
            // Back to the holder, and back to the first hop.
            goes(x, 4, 0, A, LOOP, 4, 0, 1, 2, 0);
            goes(x, 4, 0, O, LOOP, 4, 0, 1, 2, 0);
            goes(x, 0, 0, A, LOOP, 0, 1, 2, 0);
            goes(x, 1, 0, O, LOOP, 1, 0, 1);
            goes(x, 1, 0, D, LOOP, 1, 0, 2, 0);
        });
    }

    private static void longest() {
        Edge.of(24, "Returns the firm; NONE if there are not so many.", x -> {
            x.withNumbers();
            x.move(0, 1, 5);
            x.move(0, 2, 1);
            x.move(0, 3, 2);
            x.move(0, 4, 3);
            // All six firms.
            goes(x, 5, 0, D, ARRIVED, 5, 0, 1, 2, 3, 4);
            x.hop(5, 0, D, 7).is(NONE);
            x.hop(5, 0, D, HIGH).is(NONE);
        });
        Edge.of(24, "if it was a hop already, that is one more hop, the last one: LOOP.", x -> {
            x.give(0, 0);
            x.give(1, 5);
            x.assign(0, 5);
            x.move(0, 1, 0);
            x.move(0, 2, 1);
            x.move(0, 3, 2);
            x.move(0, 4, 3);
            x.move(0, 5, 4);
            // Five firms and the sixth, which serves it.
            goes(x, 0, 0, A, ARRIVED, 0, 1, 2, 3, 4, 5);
            x.move(0, 1, 5);
            x.move(0, 3);
            goes(x, 0, 0, A, ARRIVED, 0, 1, 2, 3);
            x.move(0, 0);
            goes(x, 1, 0, A, LOOP, 1, 2, 3, 4, 5, 1);
            x.hop(1, 0, A, 6).is(NONE);
        });
    }

    private static void dial() {
        Edge.of(26, "`from`: 0 to 199", x -> {
            x.give(0, 3);
            x.give(19, 2);
            x.assign(0, 5);
            x.assign(199, 5);
            for (int bad : Edge.NO_NUMBERS) {
                x.dial(bad, 0, A).noIndex();
            }
            x.dial(0, 199, A).is(ARRIVED);
            x.firm(3, 5).is(-3);
            x.dial(199, 0, A).is(ARRIVED);
            x.firm(3, 5).is(0);
        });
        Edge.of(26, "`number`: 0 to 199", x -> {
            x.give(0, 3);
            x.assign(0, 5);
            for (int bad : Edge.NO_NUMBERS) {
                x.dial(0, bad, A).noIndex();
            }
            x.dial(0, 199, A).is(NO_BLOCK);
            x.dial(0, 0, A).is(ARRIVED);
        });
        Edge.of(26, "`way`: ALL_CALL to DROP_BACK", x -> {
            x.withNumbers();
            for (int bad : Edge.NO_WAYS) {
                x.dial(0, 1, bad).noArgument();
            }
            for (int way = 0; way < 3; way++) {
                x.dial(0, 1, way).is(ARRIVED);
            }
        });
        Edge.of(26, "Throws `IndexOutOfBoundsException` if there is no such number, of either", x -> {
            x.withNumbers();
            for (int bad : Edge.NO_NUMBERS) {
                // Ahead of: way is out of range, from is not in use.
                x.dial(bad, 0, 3).noIndex();
                x.dial(0, bad, 3).noIndex();
                x.dial(10, bad, A).noIndex();
                x.dial(bad, bad, -1).noIndex();
            }
        });
        Edge.of(26, "Throws `IllegalArgumentException` if way is out of range", x -> {
            x.dial(0, 1, -1).noArgument();
            x.dial(0, 1, 3).noArgument();
            x.give(0, 0);
            x.dial(0, 1, 3).noArgument();
        });
        Edge.of(26, "Throws `IllegalStateException` if the number from which it is dialled is not in use", x -> {
            x.dial(0, 1, A).noState();
            x.withNumbers();
            x.dial(10, 1, A).noState();
            x.end(0);
            x.dial(0, 1, A).noState();
            x.pass(100);
            x.dial(0, 1, A).noState();
            // The other number may be anything.
            x.dial(1, 0, A).is(NOT_IN_USE);
            x.dial(1, 10, A).is(NO_BLOCK);
        });
        Edge.of(26, "Who dials from a number in use lets a call go from the firm that serves it", x -> {
            x.withNumbers();
            x.give(1, 1);
            x.assign(10, 5);
            x.move(10, 4, 0);
            x.move(1, 2, 4);
            // From 4, which serves it, and not from 1, its holder: only the table of 4 knows of 2.
            x.dial(10, 1, A).is(ARRIVED);
            x.firm(4, 5).is(-5 - 3);
            x.firm(2, 5).is(-5 + 3);
            x.firm(1, 5).is(5);
            x.dial(10, 10, A).is(ARRIVED);
            x.firm(4, 5).is(-5 - 3);
        });
        Edge.of(26, "Dials from a number.", x -> {
            x.withNumbers();
            x.swap(0, 9);
            x.emergency(0);
            x.setDown(0, true);
            x.dial(0, 0, D).is(ARRIVED);
            x.firm(0, 5).is(0);
            x.dial(0, 1, O).is(ARRIVED);
            x.firm(0, 5).is(0);
            x.number(0, 3).is(1);
        });
    }

    /** 5 serves 50, from which the tests dial. */
    private static void paid(Land x, int way, int ending, int... due) {
        x.dial(50, 0, way).is(ending);
        for (int firm = 0; firm < 6; firm++) {
            x.firm(firm, 5).is(due[firm]);
        }
    }

    private static void dialPays() {
        Edge.of(26, "if it has ARRIVED, that firm pays 3 to the last hop, if that is another one, and 1 to each hop between the first and the last one", x -> {
            x.withNumbers();
            x.give(5, 5);
            x.assign(50, 5);
            paid(x, A, ARRIVED, 3, 0, 0, 0, 0, -3);
            paid(x, O, ARRIVED, 6, 0, 0, 0, 0, -6);
            paid(x, D, ARRIVED, 9, 0, 0, 0, 0, -9);
        });
        Edge.of(26, "if it has ARRIVED, that firm pays 3 to the last hop, if that is another one, and 1 to each hop between the first and the last one", x -> {
            x.withNumbers();
            x.give(5, 5);
            x.assign(50, 5);
            x.move(0, 1, 5);
            paid(x, A, ARRIVED, 5, -5 + 3, 0, 0, 0, -3);
            x.move(0, 2, 1);
            paid(x, A, ARRIVED, 5, 4, -5 + 3, 0, 0, -7);
            x.move(0, 3, 2);
            x.move(0, 4, 3);
            // Six hops: four between.
            paid(x, D, ARRIVED, 5 + 1, 4 + 5 - 5 + 1, -2 + 5 + 1, 5 - 5 + 1, -5 + 3, -7 - 7);
        });
        Edge.of(26, "if that is another one", x -> {
            x.withNumbers();
            x.dial(0, 0, A).is(ARRIVED);
            x.dial(0, 1, O).is(ARRIVED);
            x.dial(0, 9, D).is(ARRIVED);
            for (int firm = 0; firm < 6; firm++) {
                x.firm(firm, 5).is(0);
            }
        });
    }

    private static void dialPaysNot() {
        Edge.of(26, "if it has ARRIVED", x -> {
            x.give(0, 0);
            x.give(5, 5);
            x.assign(50, 5);
            // NOT_IN_USE comes to the holder, which is paid nothing.
            paid(x, A, NOT_IN_USE, 0, 0, 0, 0, 0, 0);
            x.dial(50, 10, A).is(NO_BLOCK);
            x.assign(0, 5);
            x.move(0, 1, 5);
            x.move(0, 2, 1);
            x.move(0, 1, 2);
            x.move(0, 3);
            paid(x, A, LOOP, 5, 0, 0, -5, 0, 0);
            paid(x, D, LOOP, 5, 0, 0, -5, 0, 0);
            paid(x, O, STUCK, 5, 0, 0, -5, 0, 0);
        });
        Edge.of(26, "Returns ARRIVED to STUCK.", x -> {
            x.withNumbers();
            x.end(1);
            x.move(0, 1, 2);
            x.move(0, 2, 1);
            x.move(0, 4);
            x.move(3, 1, 0, 1, 2, 4, 5);
            x.dial(0, 0, A).is(ARRIVED);
            x.dial(0, 10, A).is(NO_BLOCK);
            x.dial(0, 1, A).is(NOT_IN_USE);
            x.dial(3, 0, A).is(ARRIVED);
            x.reverse(2).is(2);
            x.dial(3, 0, A).is(STUCK);
        });
    }

    private static void minute() {
        Edge.of(27, "Returns the minute of now.", x -> {
            x.minute().is(0);
            x.pass(1);
            x.minute().is(1);
            x.pass(100);
            x.minute().is(101);
            x.pass(0).noArgument();
            x.pass(101).noArgument();
            x.minute().is(101);
            x.give(0, 0);
            x.minute().is(101);
            x.passTo(9999);
            x.minute().is(9999);
            x.pass(1).noState();
            x.minute().is(9999);
        });
    }

    /** Each refused call of these tests is looked at whether it changed something; here it could change most. */
    private static void exceptions() {
        Edge.of(12, "A call that throws an exception changes nothing.", x -> {
            x.withNumbers();
            x.passTo(9900);
            x.order(1, 0, 5, 9919);
            // Most of these minutes could go by, but none of them does.
            x.pass(100).noState();
            x.pass(101).noArgument();
            x.minute().is(9900);
            x.of(0, 0).is(Portinghall.WAITING);
            x.pass(99).is(1);
            x.reverse(0).noState();
            x.pass(1).noState();
        });
        Edge.of(8, "A call that throws an exception changes nothing.", x -> {
            x.withNumbers();
            x.order(2, 0, 5, 10);
            x.order(1, 1, 5, 1);
            x.pass(1);
            x.endFirm(0, 0).noArgument();
            x.endFirm(0, 6).noIndex();
            x.endFirm(5, 4);
            x.endFirm(0, 5).noState();
            x.endFirm(5, 0).noState();
            x.give(0, 1).noState();
            x.giveBack(0).noState();
            x.assign(0, 7).noState();
            x.assign(0, 100).noArgument();
            x.swap(0, 100).noArgument();
            x.order(5, 2, 5, 10).noState();
            x.cancel(0).noState();
            x.reverse(0).noState();
            x.setLag(0, 51).noArgument();
            x.dial(2, 3, 3).noArgument();
            x.pass(101).noArgument();
        });
        Edge.of(9, "If several apply, the one that is named first in the throws clause is thrown.", x -> {
            x.give(0, 0);
            x.assign(0, 5);
            x.endFirm(5, 4);
            x.give(20, 5).noIndex();
            x.assign(200, 100).noIndex();
            x.assign(0, 100).noArgument();
            x.swap(200, 100).noIndex();
            x.swap(1, 100).noArgument();
            x.endFirm(6, 6).noIndex();
            x.endFirm(5, 5).noArgument();
            x.order(5, 200, 100, 0).noIndex();
            x.order(5, 0, 100, 0).noArgument();
            x.setLag(6, 51).noIndex();
            x.number(200, 5).noIndex();
            x.of(0, 6).noIndex();
            x.firm(6, 7).noIndex();
            x.hop(0, 0, 3, -1).noIndex();
            x.why(6, 0, 3).noIndex();
            x.dial(1, 200, 3).noIndex();
            x.dial(1, 0, 3).noArgument();
            x.passTo(9999);
            x.pass(101).noArgument();
        });
    }

    private static void lastCall() {
        Edge.of(27, "An object is used for at most 512 calls after it has been made", x -> {
            for (int call = 1; call < Land.CALLS; call++) {
                x.pass(1);
            }
            x.minute().is(511);
        });
        Edge.of(26, "An object is used for at most 512 calls after it has been made", x -> {
            x.withNumbers();
            x.give(5, 5);
            x.assign(50, 5);
            for (int call = 14; call < Land.CALLS; call++) {
                x.dial(50, 0, A);
            }
            x.firm(5, 5).is(-3 * 498);
        });
    }
}
