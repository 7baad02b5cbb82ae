/** The promises 36 to 40 and 51 to 55: what is refused, for which first reason, and what happens if not. */
public final class RefusalTest {
    /** u has the right clock for a, and not for b and c. */
    private static final String HEAD = "gate 1 3;realm a 20 60 even;realm b 10 30 fast 2;realm c 30 5 slow 2;"
            + "trust a b;trust b c;trust a c;user u a 7 even;user v b 0 even;service s a 2;service t b 1;service z a 0;";
    private static final int MANY = 24;

    public static void main(String[] args) {
        login();
        refer();
        request();
        renew();
        cheese();
        full();
        orders();
        Check.end();
    }

    private static void login() {
        Gate gate = Check.loaded(HEAD);
        Check.same("right", gate.loginRefusal(0, 7), 0);
        Check.same("wrong password", gate.loginRefusal(0, 8), 1);
        Check.same("skew 2", gate.loginRefusal(1, 0), 2);
        Check.same("wrong password before skew", gate.loginRefusal(1, 1), 1);
        Check.same("9999 is a password", gate.loginRefusal(0, 9999), 1);
        Check.same("0 is a password", gate.loginRefusal(0, 0), 1);
        Check.refuses("wrong", Check.STATE, gate, () -> gate.login(0, 8, true));
        Check.refuses("skewed", Check.STATE, gate, () -> gate.login(1, 0, false));
        for (int bad : new int[] {-1, 10000, Integer.MAX_VALUE, Integer.MIN_VALUE}) {
            Check.fails("password " + bad, Check.ARGUMENT, () -> gate.loginRefusal(0, bad));
            Check.refuses("password " + bad, Check.ARGUMENT, gate, () -> gate.login(0, bad, true));
            Check.fails("user and password " + bad, Check.INDEX, () -> gate.loginRefusal(bad, bad));
            Check.refuses("user and password " + bad, Check.INDEX, gate, () -> gate.login(bad, bad, true));
        }
        Check.fails("user 2", Check.INDEX, () -> gate.loginRefusal(2, 0));
        Check.same("plain", gate.login(0, 7, false), 0);
        Check.same("seed", gate.seed(), 70);
        ticket(gate, 0, "0 0 0 -1 0 20 20 70 false");
        gate.pass(3);
        Check.same("renewable", gate.login(0, 7, true), 1);
        ticket(gate, 1, "0 0 0 -1 3 23 63 453 true");
        Check.same("skew as great as the tolerance", gate.setClock(1, 1), 0);
        Check.same("no refusal", gate.loginRefusal(1, 0), 0);
        gate.setClock(1, 4);
        Check.same("too fast", gate.loginRefusal(1, 0), 2);
        gate.setClock(1, 3);
        Check.same("in b", gate.login(1, 0, true), 2);
        ticket(gate, 2, "0 1 1 -1 3 13 33 304 true");
        Gate least = Check.loaded("gate 0 0;realm c 30 5 even;user u c 7 even;");
        least.login(0, 7, true);
        ticket(least, 0, "0 0 0 -1 0 30 30 7 true");
    }

    private static void ticket(Gate gate, int t, String due) {
        String got = gate.kindOf(t) + " " + gate.ownerOf(t) + " " + gate.realmOf(t) + " " + gate.serviceOf(t) + " "
                + gate.startOf(t) + " " + gate.endOf(t) + " " + gate.lastEndOf(t) + " " + gate.keyOf(t) + " "
                + gate.isRenewable(t);
        Check.same("ticket " + t, got, due);
    }

    private static void refer() {
        Gate gate = Check.loaded(HEAD + "login u 7 renewable;login u 7;request 0 s;");
        Check.same("a to b", gate.referRefusal(0, 1), 0);
        Check.same("a to a", gate.referRefusal(0, 0), 3);
        Check.same("of a service ticket", gate.referRefusal(2, 1), 1);
        Check.refuses("no gate ticket", Check.STATE, gate, () -> gate.refer(2, 1));
        Check.refuses("no trust", Check.STATE, gate, () -> gate.refer(0, 0));
        Check.refuses("no ticket", Check.ELEMENT, gate, () -> gate.refer(3, 1));
        Check.refuses("no ticket and no realm", Check.ELEMENT, gate, () -> gate.refer(-1, 3));
        Check.refuses("no realm", Check.INDEX, gate, () -> gate.refer(0, 3));
        Check.refuses("no realm and no gate ticket", Check.INDEX, gate, () -> gate.refer(2, -1));
        Check.fails("no ticket", Check.ELEMENT, () -> gate.referRefusal(3, 3));
        Check.fails("no realm", Check.INDEX, () -> gate.referRefusal(2, 3));
        gate.pass(5);
        Check.same("to b", gate.refer(0, 1), 3);
        ticket(gate, 3, "0 0 1 -1 5 15 35 " + gate.seed() + " true");
        Check.same("to c, whose lifetime is longer", gate.refer(0, 2), 4);
        ticket(gate, 4, "0 0 2 -1 5 20 20 " + gate.seed() + " true");
        Check.same("not renewable", gate.refer(1, 1), 5);
        ticket(gate, 5, "0 0 1 -1 5 15 15 " + gate.seed() + " false");
        Check.same("from b the clocks do not agree", gate.referRefusal(3, 2), 4);
        Check.same("from b no trust first", gate.referRefusal(3, 0), 3);
        gate.setClock(0, 1);
        Check.same("now they do", gate.referRefusal(3, 2), 0);
        Check.same("to c", gate.refer(3, 2), 6);
        ticket(gate, 6, "0 0 2 -1 5 15 15 " + gate.seed() + " true");
        gate.pass(10);
        Check.same("not valid any more", gate.referRefusal(3, 0), 2);
        Check.same("and no gate ticket", gate.referRefusal(2, 0), 1);
        gate.pass(4);
        Check.same("the last minute", gate.referRefusal(0, 1), 0);
        Check.same("a life of a minute", gate.refer(0, 1), 7);
        ticket(gate, 7, "0 0 1 -1 19 20 49 " + gate.seed() + " true");
        gate.pass(1);
        Check.same("over", gate.referRefusal(0, 1), 2);
    }

    private static void request() {
        Gate gate = Check.loaded(HEAD + "login u 7 renewable;refer 0 b;request 0 s;");
        Check.same("s in a", gate.requestRefusal(0, 0), 0);
        Check.same("t in b", gate.requestRefusal(0, 1), 3);
        Check.same("a service without cheeses", gate.requestRefusal(0, 2), 0);
        Check.same("of a service ticket", gate.requestRefusal(2, 0), 1);
        Check.same("of a service ticket, elsewhere", gate.requestRefusal(2, 1), 1);
        Check.same("skewed in b", gate.requestRefusal(1, 1), 4);
        Check.same("elsewhere before skewed", gate.requestRefusal(1, 0), 3);
        Check.refuses("skewed", Check.STATE, gate, () -> gate.request(1, 1));
        Check.refuses("no ticket", Check.ELEMENT, gate, () -> gate.request(3, 9));
        Check.refuses("no service", Check.INDEX, gate, () -> gate.request(2, 3));
        Check.fails("no ticket", Check.ELEMENT, () -> gate.requestRefusal(3, 9));
        Check.fails("no service", Check.INDEX, () -> gate.requestRefusal(2, -1));
        gate.pass(5);
        Check.same("request", gate.request(0, 0), 3);
        ticket(gate, 3, "1 0 0 0 5 20 60 " + gate.seed() + " true");
        gate.setClock(0, 1);
        Check.same("in b", gate.request(1, 1), 4);
        ticket(gate, 4, "1 0 1 1 5 10 30 " + gate.seed() + " true");
        Check.same("plain login", gate.login(0, 7, false), 5);
        Check.same("plain request", gate.request(5, 2), 6);
        ticket(gate, 6, "1 0 0 2 5 25 25 " + gate.seed() + " false");
        gate.pass(5);
        Check.same("over, and elsewhere", gate.requestRefusal(1, 0), 2);
    }

    private static void renew() {
        Gate gate = Check.loaded(HEAD + "login u 7 renewable;login u 7;request 0 s;");
        Check.same("at once", gate.renewRefusal(0), 3);
        Check.same("not renewable", gate.renewRefusal(1), 1);
        Check.refuses("at once", Check.STATE, gate, () -> gate.renew(0));
        Check.refuses("not renewable", Check.STATE, gate, () -> gate.renew(1));
        Check.refuses("no ticket", Check.ELEMENT, gate, () -> gate.renew(3));
        Check.fails("no ticket", Check.ELEMENT, () -> gate.renewRefusal(-1));
        gate.pass(1);
        int seed = gate.seed();
        Check.same("a minute later", gate.renew(0), 21);
        Check.same("a new seed", gate.seed(), (21 * seed + 7) % 1024);
        ticket(gate, 0, "0 0 0 -1 0 21 60 " + gate.seed() + " true");
        Check.same("again at once", gate.renewRefusal(0), 3);
        Check.same("a service ticket", gate.renew(2), 21);
        ticket(gate, 2, "1 0 0 0 0 21 60 " + gate.seed() + " true");
        gate.setClock(0, 9);
        gate.pass(19);
        Check.same("skew does not matter", gate.renew(0), 40);
        gate.pass(1);
        Check.same("over", gate.renewRefusal(2), 2);
        Check.same("over and not renewable", gate.renewRefusal(1), 1);
        gate.pass(18);
        Check.same("to 59", gate.renew(0), 59);
        gate.pass(15);
        Check.same("at most the last end", gate.renew(0), 60);
        gate.pass(1);
        Check.same("no more", gate.renewRefusal(0), 3);
        gate.pass(5);
        Check.same("over", gate.renewRefusal(0), 2);
    }

    private static void cheese() {
        Gate gate = Check.loaded(HEAD + "login u 7;request 0 s;request 0 s;request 0 z;");
        Check.same("a gate ticket", gate.cheeseRefusal(0), 1);
        Check.same("s", gate.cheeseRefusal(1), 0);
        Check.same("z has none", gate.cheeseRefusal(3), 5);
        Check.refuses("a gate ticket", Check.STATE, gate, () -> gate.cheese(0));
        Check.refuses("none left", Check.STATE, gate, () -> gate.cheese(3));
        Check.refuses("no ticket", Check.ELEMENT, gate, () -> gate.cheese(4));
        Check.fails("no ticket", Check.ELEMENT, () -> gate.cheeseRefusal(-1));
        Check.same("the first one", gate.cheese(1), 1);
        Check.same("left", gate.cheesesLeft(0), 1);
        Check.same("uses", gate.useCount(), 1);
        Check.same("the same request", gate.cheeseRefusal(1), 4);
        Check.same("with another ticket", gate.cheeseRefusal(2), 4);
        Check.refuses("the same request", Check.STATE, gate, () -> gate.cheese(2));
        gate.setClock(0, 1);
        Check.same("by another clock", gate.cheeseRefusal(2), 0);
        gate.setClock(0, 2);
        Check.same("skewed", gate.cheeseRefusal(2), 3);
        gate.setClock(0, -1);
        gate.pass(1);
        Check.same("the clock shows 0 again", gate.cheeseRefusal(2), 4);
        Check.same("a minute to wait", gate.minutesUntilCheese(2), 1);
        gate.pass(1);
        Check.same("forgotten", gate.useCount(), 0);
        Check.same("the second one", gate.cheese(2), 2);
        Check.same("remembered before none left", gate.cheeseRefusal(1), 4);
        gate.pass(1);
        Check.same("none left", gate.cheeseRefusal(1), 5);
        gate.pass(17);
        Check.same("over", gate.cheeseRefusal(1), 2);
        gate.setClock(0, 9);
        Check.same("over before skewed", gate.cheeseRefusal(1), 2);
        Check.same("difference", gate.cheeseDifference(), 0);
    }

    private static void full() {
        Gate gate = Check.loaded(HEAD + "login u 7 renewable;");
        for (int i = 1; i < MANY; i++) {
            Check.same("login " + i, gate.login(0, 7, false), i);
        }
        Check.same("24 tickets", gate.loginRefusal(0, 7), 3);
        Check.same("wrong password", gate.loginRefusal(0, 8), 1);
        Check.same("skewed", gate.loginRefusal(1, 0), 2);
        Check.same("refer", gate.referRefusal(0, 1), 5);
        Check.same("refer without trust", gate.referRefusal(0, 0), 3);
        Check.same("request", gate.requestRefusal(0, 0), 5);
        Check.same("request elsewhere", gate.requestRefusal(0, 1), 3);
        Check.refuses("login", Check.STATE, gate, () -> gate.login(0, 7, false));
        Check.refuses("refer", Check.STATE, gate, () -> gate.refer(0, 1));
        Check.refuses("request", Check.STATE, gate, () -> gate.request(0, 0));
        gate.setClock(0, 2);
        Check.same("refer skewed", gate.referRefusal(0, 1), 4);
        Check.same("request skewed", gate.requestRefusal(0, 0), 4);
        gate.setClock(0, 0);
        gate.pass(1);
        Check.same("renew needs no room", gate.renew(0), 21);
        Check.same("drop", gate.drop(5), 23);
        Check.same("a new number", gate.request(0, 0), 24);
        Check.same("cheese needs no room", gate.cheese(24), 1);
    }

    /** Exceptions in the order of the throws clause: an argument before a refusal. */
    private static void orders() {
        Gate gate = Check.loaded(HEAD + "login u 7;pass 20;");
        Check.fails("login", Check.ARGUMENT, () -> gate.login(1, 10000, false));
        Check.fails("refer", Check.INDEX, () -> gate.refer(0, 5));
        Check.fails("request", Check.INDEX, () -> gate.request(0, 6));
        Check.fails("refused", Check.STATE, () -> gate.refer(0, 1));
    }
}
