/** A call of the face with its arguments, that can be made on one object after the other. */
record Act(String name, boolean onlyAsks, Deed deed) {
    interface Deed {
        long on(Portinghall x);
    }

    private static Act does(String name, Deed deed) {
        return new Act(name, false, deed);
    }

    private static Act asks(String name, Deed deed) {
        return new Act(name, true, deed);
    }

    /** The answer, or "throws." with the very class of what was thrown. */
    String outcomeOn(Portinghall x) {
        return Check.outcome(() -> deed.on(x));
    }

    private static String named(String name, int... arguments) {
        StringBuilder text = new StringBuilder(name).append('(');
        for (int i = 0; i < arguments.length; i++) {
            text.append(i == 0 ? "" : ", ").append(arguments[i]);
        }
        return text.append(')').toString();
    }

    // ---- blocks, contracts

    static Act give(int block, int firm) {
        return does(named("give", block, firm), x -> x.give(block, firm));
    }

    static Act giveBack(int block) {
        return does(named("giveBack", block), x -> x.giveBack(block));
    }

    static Act assign(int number, int secret) {
        return does(named("assign", number, secret), x -> x.assign(number, secret));
    }

    static Act end(int number) {
        return does(named("end", number), x -> x.end(number));
    }

    static Act swap(int number, int secret) {
        return does(named("swap", number, secret), x -> x.swap(number, secret));
    }

    static Act emergency(int number) {
        return does(named("emergency", number), x -> x.emergency(number));
    }

    static Act endFirm(int firm, int heir) {
        return does(named("endFirm", firm, heir), x -> x.endFirm(firm, heir));
    }

    // ---- orders, minutes

    static Act order(int firm, int number, int secret, int minute) {
        return does(named("order", firm, number, secret, minute), x -> x.order(firm, number, secret, minute));
    }

    static Act cancel(int order) {
        return does(named("cancel", order), x -> x.cancel(order));
    }

    static Act reverse(int order) {
        return does(named("reverse", order), x -> x.reverse(order));
    }

    static Act pass(int minutes) {
        return does(named("pass", minutes), x -> x.pass(minutes));
    }

    static Act setLag(int firm, int lag) {
        return does(named("setLag", firm, lag), x -> x.setLag(firm, lag));
    }

    static Act setDown(int firm, boolean isDown) {
        return does("setDown(" + firm + ", " + isDown + ")", x -> x.setDown(firm, isDown) ? 1 : 0);
    }

    static Act correct(int firm) {
        return does(named("correct", firm), x -> x.correct(firm));
    }

    // ---- what there is

    static Act server(int number) {
        return asks(named("server", number), x -> x.server(number));
    }

    static Act serverAnew(int number) {
        return asks(named("serverAnew", number), x -> x.serverAnew(number));
    }

    static Act number(int number, int what) {
        return asks(named("number", number, what), x -> x.number(number, what));
    }

    static Act of(int order, int what) {
        return asks(named("of", order, what), x -> x.of(order, what));
    }

    static Act room(int minute) {
        return asks(named("room", minute), x -> x.room(minute));
    }

    static Act firm(int firm, int what) {
        return asks(named("firm", firm, what), x -> x.firm(firm, what));
    }

    static Act known(int firm, int number) {
        return asks(named("known", firm, number), x -> x.known(firm, number));
    }

    static Act audit(int firm) {
        return asks(named("audit", firm), x -> x.audit(firm));
    }

    // ---- calls

    static Act hop(int firm, int number, int way, int place) {
        return asks(named("hop", firm, number, way, place), x -> x.hop(firm, number, way, place));
    }

    static Act why(int firm, int number, int way) {
        return asks(named("why", firm, number, way), x -> x.why(firm, number, way));
    }

    static Act dial(int from, int number, int way) {
        return does(named("dial", from, number, way), x -> x.dial(from, number, way));
    }

    static Act minute() {
        return asks("minute()", Portinghall::minute);
    }
}
