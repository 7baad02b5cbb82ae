import java.util.function.Supplier;

/** The promises 36 to 40 and 51 to 55: asking for a refusal, and the calls that may be refused. */
final class RefusalEdges {
    private static final String HEAD = "gate 1 5;realm a 10 20 even;realm b 7 15 even;realm c 5 5 even;trust a b;"
            + "user u a 7 even;user v b 0 even;"
            + "service s a 1;service t b 2;service z a 0;";
    private static final String TICKETS = HEAD + "login u 7 renewable;request 0 s;";
    private static final String NO_USER = "Throws `IndexOutOfBoundsException` if the user does not exist";
    private static final String NO_REALM = "Throws `IndexOutOfBoundsException` if the realm does not exist";
    private static final String NO_SERVICE = "Throws `IndexOutOfBoundsException` if the service does not exist";
    private static final String NO_PASSWORD = "Throws `IllegalArgumentException` if the password is out of range";
    private static final String PASSWORD = "- `password`: a password, 0 to 9999";
    private static final String REFUSED = "Throws `IllegalStateException` if it is refused";

    private RefusalEdges() {
    }

    static void run() {
        loginRefusal();
        referRefusal();
        requestRefusal();
        renewRefusal();
        cheeseRefusal();
        login();
        refer();
        request();
        renew();
        cheese();
    }

    private static Gate tickets() {
        return Check.loaded(TICKETS);
    }

    private static Gate fullTickets() {
        return Check.loaded(TICKETS + "login u 7;".repeat(22));
    }

    private static void existing(int promise, String sentence, int count, Bounds.Numbered call) {
        Edge.of("Promise " + promise, sentence, () -> Bounds.counted(RefusalEdges::tickets, count, Check.INDEX, call));
    }

    private static void loginRefusal() {
        Edge.of("Promise 36", "Returns 0 if a login would not be refused; otherwise the first reason of section 3 that applies.", () -> {
            Gate gate = Check.loaded(TICKETS + "login u 7;".repeat(21));
            Check.same("23 tickets", gate.loginRefusal(0, 7), 0);
            gate.login(0, 7, true);
            Check.same("24 tickets", gate.loginRefusal(0, 7), 3);
            gate.setClock(0, 2);
            Check.same("and skewed", gate.loginRefusal(0, 7), 2);
            Check.same("and a wrong password", gate.loginRefusal(0, 6), 1);
        });
        Edge.of("Promise 36", PASSWORD, () -> {
            Check.same("the least is wrong", tickets().loginRefusal(0, 0), 1);
            Check.same("the least is right", tickets().loginRefusal(1, 0), 0);
            Check.same("the greatest is wrong", tickets().loginRefusal(0, 9999), 1);
        });
        existing(36, NO_USER, 2, (gate, user) -> gate.loginRefusal(user, 7));
        Edge.of("Promise 36", NO_PASSWORD, () -> Bounds.ranged(RefusalEdges::tickets, 0, 9999, Check.ARGUMENT,
                (gate, password) -> gate.loginRefusal(0, password)));
    }

    private static void referRefusal() {
        Edge.of("Promise 37", "Returns 0 if a referral would not be refused; otherwise the first reason of section 3 that applies.", () -> {
            Gate gate = Check.loaded(TICKETS + "login u 7;".repeat(21));
            Check.same("23 tickets", gate.referRefusal(0, 1), 0);
            gate.login(0, 7, true);
            Check.same("24 tickets", gate.referRefusal(0, 1), 5);
            gate.setClock(0, -2);
            Check.same("and skewed", gate.referRefusal(0, 1), 4);
            Check.same("and not trusted", gate.referRefusal(0, 2), 3);
            gate.pass(10);
            Check.same("and not valid", gate.referRefusal(0, 2), 2);
            Check.same("and no gate ticket", gate.referRefusal(1, 2), 1);
        });
        existing(37, NO_REALM, 3, (gate, realm) -> gate.referRefusal(0, realm));
    }

    private static void requestRefusal() {
        Edge.of("Promise 38", "Returns 0 if a request would not be refused; otherwise the first reason of section 3 that applies.", () -> {
            Gate gate = Check.loaded(TICKETS + "login u 7;".repeat(21));
            Check.same("23 tickets", gate.requestRefusal(0, 0), 0);
            gate.login(0, 7, true);
            Check.same("24 tickets", gate.requestRefusal(0, 0), 5);
            gate.setClock(0, -2);
            Check.same("and skewed", gate.requestRefusal(0, 0), 4);
            Check.same("and of another realm", gate.requestRefusal(0, 1), 3);
            gate.pass(10);
            Check.same("and not valid", gate.requestRefusal(0, 1), 2);
            Check.same("and no gate ticket", gate.requestRefusal(1, 1), 1);
        });
        existing(38, NO_SERVICE, 3, (gate, service) -> gate.requestRefusal(0, service));
    }

    private static void renewRefusal() {
        Edge.of("Promise 39", "Returns 0 if the ticket can be renewed; otherwise the first reason of section 3 that applies.", () -> {
            Gate gate = Check.loaded(TICKETS + "login u 7;pass 1;");
            Check.same("it can", gate.renewRefusal(0), 0);
            Check.same("a ticket for a service can", gate.renewRefusal(1), 0);
            gate.renew(0);
            Check.same("its end would be the same", gate.renewRefusal(0), 3);
            Check.same("it is not renewable", gate.renewRefusal(2), 1);
            gate.pass(9);
            Check.same("it is not valid", gate.renewRefusal(1), 2);
            Check.same("nor renewable", gate.renewRefusal(2), 1);
        });
        Edge.of("Promise 39", "Returns 0 if the ticket can be renewed; otherwise the first reason of section 3 that applies.", () -> {
            Gate gate = Check.loaded(TICKETS + "login u 7;".repeat(22) + "pass 1;");
            gate.setClock(0, 9);
            Check.same("24 tickets and a skewed clock do not matter", gate.renewRefusal(0), 0);
        });
    }

    private static void cheeseRefusal() {
        Edge.of("Promise 40", "Returns 0 if a cheese can be given for the ticket; otherwise the first reason of section 3 that "
                + "applies.", () -> {
            Gate gate = fullTickets();
            Check.same("it can, with 24 tickets", gate.cheeseRefusal(1), 0);
            Check.same("a gate ticket", gate.cheeseRefusal(0), 1);
            gate.cheese(1);
            Check.same("in the same minute, none left", gate.cheeseRefusal(1), 4);
            gate.setClock(0, 2);
            Check.same("skewed, none left", gate.cheeseRefusal(1), 3);
            gate.setClock(0, 1);
            Check.same("none left", gate.cheeseRefusal(1), 5);
            gate.pass(9);
            Check.same("none left in the last minute", gate.cheeseRefusal(1), 5);
            gate.pass(1);
            Check.same("not valid", gate.cheeseRefusal(1), 2);
        });
    }

    private static void login() {
        Edge.of("Promise 51", "A user logs in.", () -> {
            Gate gate = Check.loaded(HEAD + "pass 4;");
            gate.login(1, 0, true);
            Check.same("one ticket", gate.ticketCount(), 1);
            Check.same("its owner and realm", gate.ownerOf(0) + " " + gate.realmOf(0), "1 1");
            Check.same("its life", gate.startOf(0) + " " + gate.endOf(0) + " " + gate.lastEndOf(0), "4 11 19");
        });
        Edge.of("Promise 51", PASSWORD, () -> {
            Gate gate = Check.loaded(HEAD);
            Check.same("the least", gate.login(1, 0, false), 0);
            gate.setPassword(1, 9999);
            Check.same("the greatest", gate.login(1, 9999, false), 1);
        });
        Edge.of("Promise 51", "Returns the number of the new ticket.", () -> {
            Gate gate = Check.loaded(HEAD);
            for (int number = 0; number < 24; number++) {
                Check.same("number", gate.login(0, 7, number % 2 == 0), number);
            }
            gate.drop(23);
            Check.same("after a drop", gate.login(0, 7, false), 24);
            gate.undo();
            Check.same("after an undo", gate.login(0, 7, false), 24);
        });
        existing(51, NO_USER, 2, (gate, user) -> gate.login(user, 7, true));
        Edge.of("Promise 51", NO_PASSWORD, () -> Bounds.ranged(RefusalEdges::tickets, 0, 9999, Check.ARGUMENT,
                (gate, password) -> gate.login(0, password, true)));
        Edge.of("Promise 51", REFUSED, () -> {
            Twin.refuses("1", Check.STATE, RefusalEdges::tickets, gate -> gate.login(0, 6, true));
            Twin.refuses("2", Check.STATE, clock(RefusalEdges::tickets, 2), gate -> gate.login(0, 7, false));
            Twin.refuses("3", Check.STATE, RefusalEdges::fullTickets, gate -> gate.login(0, 7, true));
            Check.same("the skew is the tolerance", clock(RefusalEdges::tickets, 1).get().login(0, 7, false), 2);
        });
    }

    private static Supplier<Gate> clock(Supplier<Gate> scene, int offset) {
        return () -> {
            Gate gate = scene.get();
            gate.setClock(0, offset);
            return gate;
        };
    }

    private static Supplier<Gate> later(Supplier<Gate> scene, int minutes) {
        return () -> {
            Gate gate = scene.get();
            gate.pass(minutes);
            return gate;
        };
    }

    private static void refer() {
        Edge.of("Promise 52", "A user is referred to another realm.", () -> {
            Gate gate = later(RefusalEdges::tickets, 9).get();
            gate.refer(0, 1);
            String kinds = "" + gate.kindOf(2) + gate.ownerOf(2) + gate.realmOf(2) + gate.serviceOf(2);
            Check.same("kind, owner, realm and service", kinds, "001-1");
            Check.same("life", gate.startOf(2) + " " + gate.endOf(2) + " " + gate.lastEndOf(2), "9 10 20");
            Check.same("the old ticket stays", gate.realmOf(0) + " " + gate.endOf(0), "0 10");
        });
        Edge.of("Promise 52", "Returns the number of the new ticket.", () -> {
            Gate gate = tickets();
            Check.same("the first", gate.refer(0, 1), 2);
            gate.drop(2);
            Check.same("after a drop", gate.refer(0, 1), 3);
            Check.same("the 24th ticket", Check.loaded(TICKETS + "login u 7;".repeat(21)).refer(0, 1), 23);
        });
        existing(52, NO_REALM, 3, (gate, realm) -> gate.refer(0, realm));
        Edge.of("Promise 52", REFUSED, () -> {
            Twin.refuses("1", Check.STATE, RefusalEdges::tickets, gate -> gate.refer(1, 1));
            Twin.refuses("2", Check.STATE, later(RefusalEdges::tickets, 10), gate -> gate.refer(0, 1));
            Twin.refuses("3", Check.STATE, RefusalEdges::tickets, gate -> gate.refer(0, 0));
            Twin.refuses("4", Check.STATE, clock(RefusalEdges::tickets, -2), gate -> gate.refer(0, 1));
            Twin.refuses("5", Check.STATE, RefusalEdges::fullTickets, gate -> gate.refer(0, 1));
            Check.same("the last minute, the skew is the tolerance", clock(later(RefusalEdges::tickets, 9), -1).get().refer(0, 1), 2);
        });
    }

    private static void request() {
        Edge.of("Promise 53", "A ticket for a service is requested.", () -> {
            Gate gate = later(RefusalEdges::tickets, 9).get();
            gate.request(0, 2);
            String kinds = "" + gate.kindOf(2) + gate.ownerOf(2) + gate.realmOf(2) + gate.serviceOf(2);
            Check.same("kind, owner, realm and service", kinds, "1002");
            Check.same("life", gate.startOf(2) + " " + gate.endOf(2) + " " + gate.lastEndOf(2), "9 10 20");
            Check.same("no cheese is given", gate.cheesesOf(0), 0);
        });
        Edge.of("Promise 53", "Returns the number of the new ticket.", () -> {
            Gate gate = tickets();
            Check.same("the first", gate.request(0, 0), 2);
            gate.drop(2);
            Check.same("after a drop", gate.request(0, 0), 3);
            Check.same("the 24th ticket", Check.loaded(TICKETS + "login u 7;".repeat(21)).request(0, 0), 23);
        });
        existing(53, NO_SERVICE, 3, (gate, service) -> gate.request(0, service));
        Edge.of("Promise 53", REFUSED, () -> {
            Twin.refuses("1", Check.STATE, RefusalEdges::tickets, gate -> gate.request(1, 0));
            Twin.refuses("2", Check.STATE, later(RefusalEdges::tickets, 10), gate -> gate.request(0, 0));
            Twin.refuses("3", Check.STATE, RefusalEdges::tickets, gate -> gate.request(0, 1));
            Twin.refuses("4", Check.STATE, clock(RefusalEdges::tickets, 2), gate -> gate.request(0, 0));
            Twin.refuses("5", Check.STATE, RefusalEdges::fullTickets, gate -> gate.request(0, 0));
            Check.same("the last minute, the skew is the tolerance", clock(later(RefusalEdges::tickets, 9), 1).get().request(0, 0), 2);
        });
    }

    private static void renew() {
        Edge.of("Promise 54", "A ticket is renewed.", () -> {
            Gate gate = later(RefusalEdges::fullTickets, 9).get();
            int seed = gate.seed();
            gate.renew(0);
            Check.same("its end", gate.endOf(0), 19);
            Check.same("its key", gate.keyOf(0), (21 * seed + 7) % 1024);
            Check.same("its start and its last end stay", gate.startOf(0) + " " + gate.lastEndOf(0), "0 20");
            Check.same("the other ticket stays", gate.endOf(1), 10);
            Check.same("no ticket is made", gate.ticketCount(), 24);
        });
        Edge.of("Promise 54", "Returns its new end.", () -> {
            Gate gate = tickets();
            gate.pass(1);
            Check.same("a minute more", gate.renew(0), 11);
            gate.pass(8);
            Check.same("eight more", gate.renew(0), 19);
            gate.pass(9);
            Check.same("the last end", gate.renew(0), 20);
        });
        Edge.of("Promise 54", REFUSED, () -> {
            Twin.refuses("1", Check.STATE, later(RefusalEdges::fullTickets, 1), gate -> gate.renew(2));
            Twin.refuses("2", Check.STATE, later(RefusalEdges::tickets, 10), gate -> gate.renew(0));
            Twin.refuses("3", Check.STATE, RefusalEdges::tickets, gate -> gate.renew(0));
            Check.same("a minute after 3", later(RefusalEdges::tickets, 1).get().renew(0), 11);
            Check.same("a minute before 2", later(RefusalEdges::tickets, 9).get().renew(0), 19);
        });
    }

    private static void cheese() {
        Edge.of("Promise 55", "A cheese is given for a ticket.", () -> {
            Gate gate = tickets();
            gate.cheese(1);
            Check.same("service, owner and uses", "" + gate.cheesesLeft(0) + gate.cheesesOf(0) + gate.useCount(), "011");
            Check.same("the ticket stays", gate.ticketCount() + " " + gate.endOf(1), "2 10");
            Check.same("no key is drawn", gate.seed(), gate.keyOf(1));
        });
        Edge.of("Promise 55", "Returns the number of cheeses of its owner afterwards.", () -> {
            Gate gate = Check.loaded("gate 0 0;realm a 999 0 even;user v a 7 even;user u a 7 even;service s a 98;service t a 1;"
                    + "login u 7;request 0 s;request 0 t;");
            for (int cheeses = 1; cheeses <= 98; cheeses++) {
                Check.same("cheeses", gate.cheese(1), cheeses);
                gate.pass(1);
            }
            Check.same("of another service", gate.cheese(2), 99);
        });
        Edge.of("Promise 55", REFUSED, () -> {
            Supplier<Gate> used = () -> Check.loaded(TICKETS + "cheese 1;");
            Twin.refuses("1", Check.STATE, RefusalEdges::tickets, gate -> gate.cheese(0));
            Twin.refuses("2", Check.STATE, later(RefusalEdges::tickets, 10), gate -> gate.cheese(1));
            Twin.refuses("3", Check.STATE, clock(RefusalEdges::tickets, 2), gate -> gate.cheese(1));
            Twin.refuses("4", Check.STATE, used, gate -> gate.cheese(1));
            Twin.refuses("5", Check.STATE, later(used, 1), gate -> gate.cheese(1));
            Check.same("the last minute, the skew is the tolerance", clock(later(RefusalEdges::tickets, 9), 1).get().cheese(1), 1);
        });
    }
}
