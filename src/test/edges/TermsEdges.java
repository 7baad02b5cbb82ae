/** The sections 1 and 2: the least and the greatest of what there is, and what a ticket is. */
final class TermsEdges {
    private static final String HEAD = "gate 2 5;realm a 10 20 even;realm b 10 20 even;user u a 7 even;service s a 2;";

    private TermsEdges() {
    }

    static void run() {
        story();
        calls();
        gate();
        realms();
        users();
        services();
        names();
        numbers();
        lives();
    }

    private static void story() {
        String sentence = "A gate that trades passwords for tickets and tickets for cheeses: users of realms log in, are "
                + "referred from realm to realm "
                + "along trust, request tickets for services, renew them, and get cheeses for fresh tickets if their clocks "
                + "agree and the same "
                + "request was not made before.";
        Edge.of("What it is", sentence, () -> {
            Gate gate = Check.loaded(HEAD + "trust a b;service t b 2;");
            Check.same("log in", gate.login(0, 7, true), 0);
            Check.same("referred", gate.refer(0, 1), 1);
            Check.same("request", gate.request(1, 1), 2);
            gate.pass(9);
            Check.same("renew", gate.renew(2), 19);
            Check.same("a cheese", gate.cheese(2), 1);
            Check.fails("the same request", Check.STATE, () -> gate.cheese(2));
            gate.setClock(0, 3);
            Check.fails("clocks that do not agree", Check.STATE, () -> gate.cheese(2));
            gate.setClock(0, 0);
            gate.pass(10);
            Check.fails("a ticket that is not fresh", Check.STATE, () -> gate.cheese(2));
        });
    }

    private static void calls() {
        Edge.of("What it is", "An object is used for at most 512 calls after it has been made; what later calls answer is free.", () -> {
            Gate late = new Gate();
            for (int call = 1; call <= 511; call++) {
                late.pass(999);
            }
            Check.same("the latest time there can be, by the 512th call", late.time(), 6 + 511 * 999);
            Gate many = new Gate();
            for (int call = 1; call <= 510; call += 2) {
                Check.same("a number", many.login(0, 11, false), 5 + call / 2);
                many.drop(5 + call / 2);
            }
            Check.same("the greatest number there can be, by the 511th call", many.login(0, 11, false), 260);
            Check.same("is written by the 512th", many.writeTicket(260), "260:ann@alp 66".length());
        });
    }

    private static void gate() {
        Edge.of("Section 1", "The gate has a time in minutes, 0 at first, a tolerance (0 to 9 minutes), and a seed (0 to 1023).", () -> {
            Gate least = Check.loaded("gate 0 0;");
            Check.same("time at first", least.time(), 0);
            Check.same("least seed", least.seed(), 0);
            Gate most = Check.loaded("gate 9 1023;");
            Check.same("time at first", most.time(), 0);
            Check.same("greatest seed", most.seed(), 1023);
            Check.error("gate 10 5;", 2, 5);
            Check.error("gate 9 1024;", 2, 7);
            Check.same("tolerance 0, skew 0", skewed(0, 0).loginRefusal(0, 7), 0);
            Check.same("tolerance 0, skew 1", skewed(0, 1).loginRefusal(0, 7), 2);
            Check.same("tolerance 9, skew 9", skewed(9, 9).loginRefusal(0, 7), 0);
            Check.same("tolerance 9, skew 10", skewed(9, 10).loginRefusal(0, 7), 2);
        });
    }

    /** The realm's clock is slow, so that a skew greater than the greatest offset can be set. */
    private static Gate skewed(int tolerance, int skew) {
        Gate gate = Check.loaded("gate " + tolerance + " 0;realm a 1 0 slow 3;user u a 7 slow 3;");
        gate.setClock(0, skew - 3);
        return gate;
    }

    private static void realms() {
        Edge.of("Section 1", "There are at most 5 realms, numbered from 0.", () -> {
            String five = "gate 0 0;realm a 1 0 even;realm b 1 0 even;realm c 1 0 even;realm d 1 0 even;realm e 1 0 even;";
            Gate gate = Check.loaded(five);
            Check.same("five", gate.realmCount(), 5);
            Check.same("the first one", Check.find(gate, "a"), 0);
            Check.same("the last one", Check.find(gate, "e"), 4);
            Check.error(five + "realm f 1 0 even;", 5, five.length());
        });
        String sentence = "A realm has a name, a lifetime (1 to 999 minutes), a renewable lifetime (0 to 9999 minutes), "
                + "and an offset of its clock (-9 to 9); its clock shows the time plus the offset.";
        Edge.of("Section 1", sentence, () -> {
            Gate gate = Check.loaded("gate 0 0;realm a 1 0 slow 9;realm b 999 9999 fast 9;realm c 999 0 even;user u c 7 even;"
                    + "user v a 7 slow 9;user w b 7 fast 9;login u 7 renewable;login v 7 renewable;login w 7 renewable;");
            Check.same("least lifetime", gate.lifetimeOf(0), 1);
            Check.same("greatest lifetime", gate.lifetimeOf(1), 999);
            Check.same("least renewable lifetime", gate.lastEndOf(0), 999);
            Check.same("least of both", gate.lastEndOf(1), 1);
            Check.same("greatest renewable lifetime", gate.lastEndOf(2), 9999);
            Check.same("least clock", gate.clockOf(0), -9);
            Check.same("greatest clock", gate.clockOf(1), 9);
            Check.same("even clock", gate.clockOf(2), 0);
            gate.pass(9);
            Check.same("least clock after 9 minutes", gate.clockOf(0), 0);
            Check.error("gate 0 0;realm a 0 0 even;", 2, 17);
            Check.error("gate 0 0;realm a 1000 0 even;", 2, 17);
            Check.error("gate 0 0;realm a 1 10000 even;", 2, 19);
            Check.error("gate 0 0;realm a 1 0 fast 10;", 2, 26);
            Check.error("gate 0 0;realm a 1 0 slow 10;", 2, 26);
        });
        Edge.of("Section 1", "A realm can trust another one, in one direction.", () -> {
            Gate gate = Check.loaded(HEAD + "trust a b;");
            Check.same("a to b", gate.trusts(0, 1), true);
            Check.same("b to a", gate.trusts(1, 0), false);
            Check.same("a to a", gate.trusts(0, 0), false);
            Gate both = Check.loaded(HEAD + "trust a b;trust b a;");
            Check.same("both directions are two", both.trusts(0, 1) && both.trusts(1, 0), true);
            Check.error(HEAD + "trust a a;", 3, HEAD.length() + 8);
        });
    }

    private static void users() {
        Edge.of("Section 1", "There are at most 6 users, numbered from 0.", () -> {
            String six = "gate 0 0;realm r 1 0 even;user a r 1 even;user b r 1 even;user c r 1 even;user d r 1 even;"
                    + "user e r 1 even;user f r 1 even;";
            Gate gate = Check.loaded(six);
            Check.same("six", gate.userCount(), 6);
            Check.same("the first one", Check.find(gate, "a"), 100);
            Check.same("the last one", Check.find(gate, "f"), 105);
            Check.error(six + "user g r 1 even;", 5, six.length());
        });
        String sentence = "A user has a name, a home realm, a password (0 to 9999), an offset of the own clock (-9 to 9), "
                + "and a number of cheeses, 0 at first.";
        Edge.of("Section 1", sentence, () -> {
            Gate gate = Check.loaded("gate 9 0;realm a 1 0 even;realm b 1 0 even;user u a 0 slow 9;user v b 9999 fast 9;");
            Check.same("home", gate.homeOf(0), 0);
            Check.same("the other home", gate.homeOf(1), 1);
            Check.same("least password", gate.loginRefusal(0, 0), 0);
            Check.same("greatest password", gate.loginRefusal(1, 9999), 0);
            Check.same("least offset", gate.setClock(0, 0), -9);
            Check.same("greatest offset", gate.setClock(1, 0), 9);
            Check.same("cheeses at first", gate.cheesesOf(0) + gate.cheesesOf(1), 0);
            String head = "gate 0 0;realm a 1 0 even;";
            Check.error(head + "user u a 10000 even;", 2, head.length() + 9);
            Check.error(head + "user u a 7 fast 10;", 2, head.length() + 16);
            Check.error(head + "user u a 7 slow 10;", 2, head.length() + 16);
        });
    }

    private static void services() {
        String six = "gate 0 0;realm r 1 0 even;service a r 1;service b r 1;service c r 1;service d r 1;service e r 1;service f r 1;";
        Edge.of("Section 1", "There are at most 6 services, numbered from 0.", () -> {
            Gate gate = Check.loaded(six);
            Check.same("six", gate.serviceCount(), 6);
            Check.same("the first one", Check.find(gate, "a"), 200);
            Check.same("the last one", Check.find(gate, "f"), 205);
            Check.error(six + "service g r 1;", 5, six.length());
        });
        Edge.of("Section 1", "A service has a name, a realm, and cheeses (0 to 99).", () -> {
            Gate gate = Check.loaded("gate 0 0;realm a 1 0 even;realm b 1 0 even;service s b 0;service t a 99;");
            Check.same("realm", gate.realmOfService(0), 1);
            Check.same("least cheeses", gate.cheesesLeft(0), 0);
            Check.same("greatest cheeses", gate.cheesesLeft(1), 99);
            Check.error("gate 0 0;realm a 1 0 even;service s a 100;", 2, 38);
        });
    }

    private static void names() {
        Edge.of("Section 1", "Names have 1 to 4 letters, and no two realms, users or services have the same name.", () -> {
            Gate gate = Check.loaded("gate 0 0;realm a 1 0 even;realm zzzz 1 0 even;user z a 7 even;user aaaa a 7 even;"
                    + "service az a 1;service azaz a 1;");
            Check.same("one letter", Check.find(gate, "a"), 0);
            Check.same("four letters", Check.find(gate, "zzzz"), 1);
            Check.same("a user's", Check.find(gate, "aaaa"), 101);
            Check.same("a service's", Check.find(gate, "azaz"), 201);
            Check.error("gate 0 0;realm aaaaa 1 0 even;", 2, 15);
            Check.error(HEAD + "user aaaaa a 7 even;", 2, HEAD.length() + 5);
            Check.error(HEAD + "service aaaaa a 7;", 2, HEAD.length() + 8);
            for (String name : new String[] {"a", "u", "s"}) {
                Check.error(HEAD + "realm " + name + " 1 0 even;", 3, HEAD.length() + 6);
                Check.error(HEAD + "user " + name + " a 7 even;", 3, HEAD.length() + 5);
                Check.error(HEAD + "service " + name + " a 7;", 3, HEAD.length() + 8);
            }
        });
        Edge.of("Section 1", "The skew of a user and a realm is the difference of their offsets without sign.", () -> {
            Gate gate = Check.loaded("gate 0 0;realm a 1 0 slow 9;realm b 1 0 fast 9;user u a 7 fast 9;user v a 7 slow 9;");
            Check.same("greatest, the user is fast", gate.skew(0, 0), 18);
            Check.same("greatest, the user is slow", gate.skew(1, 1), 18);
            Check.same("least", gate.skew(0, 1), 0);
            gate.setClock(0, 8);
            Check.same("the user is a minute slower", gate.skew(0, 1), 1);
            gate.setClock(1, -8);
            Check.same("the user is a minute faster", gate.skew(1, 0), 1);
        });
    }

    private static void numbers() {
        Edge.of("Section 2", "There are at most 24 tickets.", () -> {
            String head = "gate 0 0;realm a 9 9 even;realm b 9 9 even;trust a b;user u a 7 even;service s a 1;" + "login u 7;".repeat(23);
            Gate gate = Check.loaded(head);
            Check.same("the 24th", gate.login(0, 7, false), 23);
            Check.same("24", gate.ticketCount(), 24);
            Check.fails("a 25th login", Check.STATE, () -> gate.login(0, 7, false));
            Check.fails("a 25th referral", Check.STATE, () -> gate.refer(0, 1));
            Check.fails("a 25th request", Check.STATE, () -> gate.request(0, 0));
            Check.same("still 24", gate.ticketCount(), 24);
            Check.error(head + "login u 7;login u 7;", 6, head.length() + 19);
        });
        String sentence = "A ticket has a number (0, 1, 2 and so on in the order in which the tickets were made; a number is "
                + "never used again), "
                + "a kind (0 a gate ticket for a realm, 1 a ticket for a service), an owner, which is a user, a realm, a service if it is "
                + "of the kind 1, a start, an end, a last end, a key, and the flag renewable or not.";
        Edge.of("Section 2", sentence, () -> {
            Gate gate = Check.loaded(HEAD + "trust a b;");
            Check.same("the first number", gate.login(0, 7, false), 0);
            Check.same("a request's", gate.request(0, 0), 1);
            Check.same("a referral's", gate.refer(0, 1), 2);
            Check.same("kinds", "" + gate.kindOf(0) + gate.kindOf(1) + gate.kindOf(2), "010");
            Check.same("services", "" + gate.serviceOf(0) + gate.serviceOf(1) + gate.serviceOf(2), "-10-1");
            gate.drop(2);
            Check.same("that of the latest is not used again", gate.login(0, 7, false), 3);
            gate.drop(0);
            Check.same("that of the first is not used again", gate.login(0, 7, false), 4);
            gate.pass(10);
            gate.sweep();
            Check.same("those of swept tickets are not used again", gate.login(0, 7, false), 5);
            Check.fails("a refused one", Check.STATE, () -> gate.login(0, 8, false));
            Check.same("a refused one takes no number", gate.login(0, 7, false), 6);
            Check.same("in a text too", Check.loaded(HEAD + "login u 7;drop 0;login u 7;").ticketAt(0), 1);
            Check.load(gate, HEAD + "login u 7;");
            Check.same("a new text begins at 0", gate.ticketAt(0), 0);
        });
    }

    private static void lives() {
        Edge.of("Section 2", "It is valid if the time is less than its end.", () -> {
            Gate gate = Check.loaded(HEAD + "login u 7;pass 9;");
            Check.same("a minute before the end", gate.isValid(0), true);
            gate.pass(1);
            Check.same("at the end", gate.isValid(0), false);
        });
        Edge.of("Section 2", "Tickets that are not valid any more stay until they are dropped or swept away.", () -> {
            Gate gate = Check.loaded(HEAD + "login u 7;login u 7;pass 10;");
            Check.same("they are there at their end", gate.ticketCount(), 2);
            gate.pass(999);
            Check.same("and long after it", gate.ticketCount(), 2);
            Check.same("drop", gate.drop(0), 1);
            Check.same("sweep", gate.sweep(), 1);
            Check.same("none is left", gate.ticketCount(), 0);
        });
        Edge.of("Section 2", "To make a ticket draws a key: the seed becomes (21 * seed + 7) modulo 1024, and the key is the "
                + "new seed.", () -> {
            for (int seed = 0; seed < 1024; seed++) {
                Gate gate = Check.loaded("gate 0 " + seed + ";realm a 1 0 even;user u a 7 even;login u 7;");
                Check.same("key after the seed " + seed, gate.keyOf(0), (21 * seed + 7) % 1024);
                Check.same("seed after " + seed, gate.seed(), gate.keyOf(0));
            }
            Gate gate = Check.loaded("gate 0 1023;realm a 1 0 even;user u a 7 even;");
            Check.fails("wrong password", Check.STATE, () -> gate.login(0, 8, false));
            Check.same("a refused login draws none", gate.seed(), 1023);
        });
        Edge.of("Section 2", "To make a ticket draws a key: the seed becomes (21 * seed + 7) modulo 1024, and the key is the "
                + "new seed.", () -> {
            Gate gate = Check.loaded(HEAD + "login u 7;request 0 s;");
            int seed = gate.seed();
            gate.cheese(1);
            gate.drop(1);
            gate.setPassword(0, 8);
            gate.setClock(0, 1);
            gate.pass(10);
            gate.sweep();
            gate.save(0);
            Check.same("calls that make none draw none", gate.seed(), seed);
        });
        Edge.of("Section 2", "The start is the time.", () -> {
            Gate gate = Check.loaded(HEAD + "trust a b;login u 7;pass 9;refer 0 b;request 0 s;login u 7;");
            Check.same("at the time 0", gate.startOf(0), 0);
            Check.same("of a referral", gate.startOf(1), 9);
            Check.same("of a request", gate.startOf(2), 9);
            Check.same("of a login", gate.startOf(3), 9);
        });
        Edge.of("Section 2", "The last end of a ticket that is not renewable is its end.", () -> {
            Gate gate = Check.loaded(HEAD + "trust a b;login u 7;pass 3;refer 0 b;request 0 s;login u 7;");
            for (int t = 0; t < 4; t++) {
                Check.same("ticket " + t, gate.lastEndOf(t), gate.endOf(t));
            }
            Check.same("it is not the renewable lifetime", gate.lastEndOf(3), 13);
        });
    }
}
