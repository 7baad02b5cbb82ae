/** The section 3: each reason of a refusal where it begins, and what comes out if nothing is refused. */
final class RuleEdges {
    /** The user u can be skewed by 1 from a; b is 2 minutes before a. */
    private static final String HEAD = "gate 1 5;realm a 10 20 even;realm b 7 15 fast 2;trust a b;user u a 7 even;"
            + "service s a 2;service t b 2;service z a 0;";
    private static final String FULL = "login u 7;".repeat(22);

    private RuleEdges() {
    }

    static void run() {
        firstReason();
        login();
        loginResult();
        refer();
        request();
        renew();
        cheese();
        cheeseGiven();
        inherited();
        uses();
    }

    /** Of reasons that apply all together, one after the other is taken away. */
    private static void firstReason() {
        Edge.of("Section 3", "Each of these is refused for the first of its reasons that applies:", () -> {
            Gate gate = Check.loaded(HEAD + "login u 7;request 0 s;pass 4;" + FULL);
            gate.setClock(0, 2);
            Check.same("login 1 2 3", gate.loginRefusal(0, 8), 1);
            Check.same("login 2 3", gate.loginRefusal(0, 7), 2);
            gate.pass(6);
            Check.same("refer 1 2 3 4 5", gate.referRefusal(1, 0), 1);
            Check.same("refer 2 3 4 5", gate.referRefusal(0, 0), 2);
            Check.same("refer 3 4 5", gate.referRefusal(2, 0), 3);
            Check.same("refer 4 5", gate.referRefusal(2, 1), 4);
            Check.same("request 1 2 3 4 5", gate.requestRefusal(1, 1), 1);
            Check.same("request 2 3 4 5", gate.requestRefusal(0, 1), 2);
            Check.same("request 3 4 5", gate.requestRefusal(2, 1), 3);
            Check.same("request 4 5", gate.requestRefusal(2, 0), 4);
            gate.setClock(0, 1);
            Check.same("login 3", gate.loginRefusal(0, 7), 3);
            Check.same("refer 5", gate.referRefusal(2, 1), 5);
            Check.same("request 5", gate.requestRefusal(2, 0), 5);
            gate.drop(23);
            Check.same("login", gate.loginRefusal(0, 7), 0);
            Check.same("refer", gate.referRefusal(2, 1), 0);
            Check.same("request", gate.requestRefusal(2, 0), 0);
        });
        Edge.of("Section 3", "Each of these is refused for the first of its reasons that applies:", () -> {
            Gate gate = Check.loaded("gate 1 5;realm a 10 10 even;user u a 7 even;login u 7;login u 7 renewable;");
            Check.same("renew 1 3", gate.renewRefusal(0), 1);
            gate.pass(10);
            Check.same("renew 1 2 3", gate.renewRefusal(0), 1);
            Check.same("renew 2 3", gate.renewRefusal(1), 2);
            gate.undo();
            Check.same("renew 3", gate.renewRefusal(1), 3);
        });
        Edge.of("Section 3", "Each of these is refused for the first of its reasons that applies:", () -> {
            Gate gate = Check.loaded("gate 1 5;realm a 10 20 fast 1;user u a 7 even;service s a 1;service t a 1;"
                    + "login u 7;request 0 s;request 0 t;pass 8;cheese 1;pass 1;");
            gate.setClock(0, -1);
            gate.pass(1);
            Check.same("cheese 1 2 3", gate.cheeseRefusal(0), 1);
            Check.same("cheese 2 3 5", gate.cheeseRefusal(1), 2);
            gate.undo();
            Check.same("cheese 3 4 5", gate.cheeseRefusal(1), 3);
            gate.undo();
            Check.same("cheese 5", gate.cheeseRefusal(1), 5);
            Check.same("cheese", gate.cheeseRefusal(2), 0);
            Gate same = Check.loaded("gate 1 5;realm a 10 20 even;user u a 7 even;service s a 1;login u 7;request 0 s;pass 9;cheese 1;");
            Check.same("cheese 4 5", same.cheeseRefusal(1), 4);
            same.pass(1);
            same.setClock(0, -1);
            Check.same("cheese 2 4 5", same.cheeseRefusal(1), 2);
        });
    }

    private static void login() {
        Edge.of("Section 3 login", "1 the password is wrong", () -> {
            Gate gate = Check.loaded(HEAD);
            Check.same("it is right", gate.loginRefusal(0, 7), 0);
            Check.same("one less", gate.loginRefusal(0, 6), 1);
            Check.same("one more", gate.loginRefusal(0, 8), 1);
            gate.setPassword(0, 9999);
            Check.same("it was right", gate.loginRefusal(0, 7), 1);
            Check.same("the greatest", gate.loginRefusal(0, 9999), 0);
            gate.setPassword(0, 0);
            Check.same("the least", gate.loginRefusal(0, 0), 0);
            Check.same("next to the least", gate.loginRefusal(0, 1), 1);
        });
        Edge.of("Section 3 login", "2 the skew of the user and the home realm is greater than the tolerance", () -> {
            Gate gate = Check.loaded(HEAD);
            int[] refusals = {2, 0, 0, 0, 2};
            for (int offset = -2; offset <= 2; offset++) {
                gate.setClock(0, offset);
                Check.same("offset " + offset, gate.loginRefusal(0, 7), refusals[offset + 2]);
            }
            Gate far = Check.loaded("gate 1 5;realm a 1 1 even;realm b 1 1 fast 5;user u b 7 fast 5;");
            Check.same("not the skew of another realm", far.loginRefusal(0, 7), 0);
        });
        Edge.of("Section 3 login", "3 there are 24 tickets", () -> {
            Gate gate = Check.loaded(HEAD + FULL + "login u 7;");
            Check.same("23", gate.loginRefusal(0, 7), 0);
            gate.login(0, 7, true);
            Check.same("24", gate.loginRefusal(0, 7), 3);
            gate.pass(99);
            Check.same("24 of which none is valid", gate.loginRefusal(0, 7), 3);
            gate.sweep();
            Check.same("0, of 24 numbers that were used", gate.loginRefusal(0, 7), 0);
        });
    }

    private static void loginResult() {
        Edge.of("Section 3 login", "The result is a gate ticket for the home realm, whose end is the time plus the lifetime of "
                + "the realm", () -> {
            Gate gate = Check.loaded("gate 0 0;realm a 5 9 even;realm b 1 9 even;realm c 999 9 even;user u b 7 even;"
                    + "user v c 7 even;pass 3;");
            gate.login(0, 7, false);
            gate.login(1, 7, true);
            Check.same("a gate ticket", gate.kindOf(0), TicketGate.FOR_REALM);
            Check.same("home realm", gate.realmOf(0), 1);
            Check.same("owner", gate.ownerOf(1), 1);
            Check.same("the least lifetime", gate.endOf(0), 4);
            Check.same("the greatest lifetime", gate.endOf(1), 1002);
        });
        String sentence = "if it shall be renewable, its last end is the time plus the renewable lifetime of the realm, but at "
                + "least the end";
        Edge.of("Section 3 login", sentence, () -> {
            int[] renewals = {0, 9, 10, 11, 9999};
            int[] lastEnds = {13, 13, 13, 14, 10002};
            for (int i = 0; i < renewals.length; i++) {
                Gate gate = Check.loaded("gate 0 0;realm a 10 " + renewals[i] + " even;user u a 7 even;pass 3;"
                        + "login u 7 renewable;login u 7;");
                Check.same("renewable lifetime " + renewals[i], gate.lastEndOf(0), lastEnds[i]);
                Check.same("it can be renewed", gate.isRenewable(0), true);
                Check.same("not renewable", gate.lastEndOf(1), 13);
            }
        });
    }

    private static void refer() {
        Edge.of("Section 3 refer", "1 it is no gate ticket", () -> {
            Gate gate = Check.loaded(HEAD + "login u 7;request 0 s;");
            Check.same("a gate ticket", gate.referRefusal(0, 1), 0);
            Check.same("a ticket for a service", gate.referRefusal(1, 1), 1);
        });
        Edge.of("Section 3 refer", "2 it is not valid", () -> {
            Gate gate = Check.loaded(HEAD + "login u 7;pass 9;");
            Check.same("the last minute", gate.referRefusal(0, 1), 0);
            gate.pass(1);
            Check.same("the end", gate.referRefusal(0, 1), 2);
        });
        Edge.of("Section 3 refer", "3 the realm of the ticket does not trust the realm", () -> {
            Gate gate = Check.loaded("gate 9 5;realm a 10 20 even;realm b 7 15 even;realm c 7 7 even;trust a b;trust b c;user u a 7 even;"
                    + "login u 7;refer 0 b;");
            Check.same("it does", gate.referRefusal(0, 1), 0);
            Check.same("to itself", gate.referRefusal(0, 0), 3);
            Check.same("against the direction", gate.referRefusal(1, 0), 3);
            Check.same("by two steps", gate.referRefusal(0, 2), 3);
            Check.same("by the realm of the ticket, which is not the home realm", gate.referRefusal(1, 2), 0);
        });
        Edge.of("Section 3 refer", "4 the skew of the owner and the realm of the ticket is greater than the tolerance", () -> {
            Gate gate = Check.loaded(HEAD + "login u 7;");
            int[] refusals = {4, 0, 0, 0, 4};
            for (int offset = -2; offset <= 2; offset++) {
                gate.setClock(0, offset);
                Check.same("offset " + offset, gate.referRefusal(0, 1), refusals[offset + 2]);
            }
        });
        Edge.of("Section 3 refer", "5 there are 24 tickets", () -> {
            Gate gate = Check.loaded(HEAD + FULL + "login u 7;");
            Check.same("23", gate.referRefusal(0, 1), 0);
            Check.same("the 24th", gate.refer(0, 1), 23);
            Check.same("24", gate.referRefusal(0, 1), 5);
        });
        Edge.of("Section 3 refer", "The result is a gate ticket for the realm with the same owner", () -> {
            Gate gate = Check.loaded("gate 9 5;realm a 10 20 even;realm b 7 15 even;trust a b;user v b 7 even;user u a 7 even;login u 7;");
            Check.same("number", gate.refer(0, 1), 1);
            Check.same("kind", gate.kindOf(1), TicketGate.FOR_REALM);
            Check.same("no service", gate.serviceOf(1), TicketGate.NONE);
            Check.same("realm", gate.realmOf(1), 1);
            Check.same("owner", gate.ownerOf(1), 1);
            Check.same("the old one stays", gate.realmOf(0), 0);
        });
    }

    private static void request() {
        Edge.of("Section 3 request", "1 it is no gate ticket", () -> {
            Gate gate = Check.loaded(HEAD + "login u 7;request 0 s;");
            Check.same("a gate ticket", gate.requestRefusal(0, 0), 0);
            Check.same("a ticket for this service", gate.requestRefusal(1, 0), 1);
        });
        Edge.of("Section 3 request", "2 it is not valid", () -> {
            Gate gate = Check.loaded(HEAD + "login u 7;pass 9;");
            Check.same("the last minute", gate.requestRefusal(0, 0), 0);
            gate.pass(1);
            Check.same("the end", gate.requestRefusal(0, 0), 2);
        });
        Edge.of("Section 3 request", "3 its realm is not that of the service", () -> {
            Gate gate = Check.loaded("gate 9 5;realm a 9 9 even;realm b 7 7 even;trust a b;user u a 7 even;service s a 2;service t b 2;"
                    + "login u 7;refer 0 b;");
            Check.same("a, s", gate.requestRefusal(0, 0), 0);
            Check.same("a, t", gate.requestRefusal(0, 1), 3);
            Check.same("b, s", gate.requestRefusal(1, 0), 3);
            Check.same("b, t", gate.requestRefusal(1, 1), 0);
        });
        Edge.of("Section 3 request", "4 the skew of the owner and the realm of the ticket is greater than the tolerance", () -> {
            Gate gate = Check.loaded(HEAD + "login u 7;refer 0 b;");
            int[] ofA = {4, 0, 0, 0, 4, 4, 4};
            int[] ofB = {4, 4, 4, 0, 0, 0, 4};
            for (int offset = -2; offset <= 4; offset++) {
                gate.setClock(0, offset);
                Check.same("in a, offset " + offset, gate.requestRefusal(0, 0), ofA[offset + 2]);
                Check.same("in b, offset " + offset, gate.requestRefusal(1, 1), ofB[offset + 2]);
            }
        });
        Edge.of("Section 3 request", "5 there are 24 tickets", () -> {
            Gate gate = Check.loaded(HEAD + FULL + "login u 7;");
            Check.same("23", gate.requestRefusal(0, 0), 0);
            Check.same("the 24th", gate.request(0, 0), 23);
            Check.same("24", gate.requestRefusal(0, 0), 5);
        });
        Edge.of("Section 3 request", "The result is a ticket for the service with the same owner and realm", () -> {
            Gate gate = Check.loaded("gate 9 5;realm b 7 15 even;realm a 10 20 even;user v b 7 even;user u a 7 even;service t b 1;"
                    + "service s a 0;login u 7;");
            Check.same("a service without cheeses", gate.request(0, 1), 1);
            Check.same("kind", gate.kindOf(1), TicketGate.FOR_SERVICE);
            Check.same("service", gate.serviceOf(1), 1);
            Check.same("realm", gate.realmOf(1), 1);
            Check.same("owner", gate.ownerOf(1), 1);
        });
    }

    private static void renew() {
        Edge.of("Section 3 renew", "1 it is not renewable", () -> {
            Gate gate = Check.loaded(HEAD + "login u 7 renewable;login u 7;pass 1;");
            Check.same("renewable", gate.renewRefusal(0), 0);
            Check.same("not renewable", gate.renewRefusal(1), 1);
        });
        Edge.of("Section 3 renew", "2 it is not valid", () -> {
            Gate gate = Check.loaded(HEAD + "login u 7 renewable;pass 9;");
            Check.same("the last minute", gate.renewRefusal(0), 0);
            gate.pass(1);
            Check.same("the end", gate.renewRefusal(0), 2);
        });
        Edge.of("Section 3 renew", "3 its new end would not be greater than its end", () -> {
            Gate gate = Check.loaded(HEAD + "login u 7 renewable;");
            Check.same("in the same minute", gate.renewRefusal(0), 3);
            gate.pass(1);
            Check.same("a minute later", gate.renewRefusal(0), 0);
            gate.renew(0);
            Check.same("in the same minute again", gate.renewRefusal(0), 3);
            gate.pass(8);
            gate.renew(0);
            Check.same("a minute before the last end", gate.endOf(0), 19);
            gate.pass(5);
            Check.same("the last end is greater", gate.renewRefusal(0), 0);
            gate.renew(0);
            gate.pass(1);
            Check.same("the last end is not greater", gate.renewRefusal(0), 3);
        });
        Edge.of("Section 3 renew", "The new end is the time plus the lifetime of its realm, but at most the last end", () -> {
            Gate gate = Check.loaded(HEAD + "login u 7 renewable;refer 0 b;pass 6;");
            Check.same("of the realm b", gate.renew(1), 13);
            gate.pass(2);
            Check.same("exactly the last end", gate.renew(1), 15);
            gate.undo();
            gate.pass(1);
            Check.same("not beyond the last end", gate.renew(1), 15);
            Check.same("of the realm a", gate.renew(0), 19);
            Check.same("the last end stays", gate.lastEndOf(1), 15);
        });
        Edge.of("Section 3 renew", "a new key is drawn", () -> {
            Gate gate = Check.loaded(HEAD + "login u 7 renewable;pass 1;");
            int seed = gate.seed();
            gate.renew(0);
            Check.same("key", gate.keyOf(0), (21 * seed + 7) % 1024);
            Check.same("seed", gate.seed(), gate.keyOf(0));
            Check.fails("again at once", Check.STATE, () -> gate.renew(0));
            Check.same("a refused one draws none", gate.seed(), gate.keyOf(0));
        });
    }

    private static void cheese() {
        Edge.of("Section 3 cheese", "1 it is no ticket for a service", () -> {
            Gate gate = Check.loaded(HEAD + "login u 7;request 0 s;");
            Check.same("a gate ticket", gate.cheeseRefusal(0), 1);
            Check.same("a ticket for a service", gate.cheeseRefusal(1), 0);
        });
        Edge.of("Section 3 cheese", "2 it is not valid", () -> {
            Gate gate = Check.loaded(HEAD + "login u 7;request 0 s;pass 9;");
            Check.same("the last minute", gate.cheeseRefusal(1), 0);
            gate.pass(1);
            Check.same("the end", gate.cheeseRefusal(1), 2);
        });
        Edge.of("Section 3 cheese", "3 the skew of the owner and the realm of the ticket is greater than the tolerance", () -> {
            Gate gate = Check.loaded(HEAD + "login u 7;request 0 s;refer 0 b;");
            gate.setClock(0, 1);
            gate.request(2, 1);
            int[] ofA = {3, 0, 0, 0, 3, 3, 3};
            int[] ofB = {3, 3, 3, 0, 0, 0, 3};
            for (int offset = -2; offset <= 4; offset++) {
                gate.setClock(0, offset);
                Check.same("in a, offset " + offset, gate.cheeseRefusal(1), ofA[offset + 2]);
                Check.same("in b, offset " + offset, gate.cheeseRefusal(3), ofB[offset + 2]);
            }
        });
        Edge.of("Section 3 cheese", "4 a use with the same user, service, and time on the clock of the user is remembered", () -> {
            Gate gate = Check.loaded("gate 1 5;realm a 10 20 even;user u a 7 even;user v a 7 even;service s a 9;service t a 9;"
                    + "login u 7;request 0 s;request 0 s;request 0 t;login v 7;request 4 s;cheese 1;");
            Check.same("the same ticket", gate.cheeseRefusal(1), 4);
            Check.same("another ticket for it", gate.cheeseRefusal(2), 4);
            Check.same("another service", gate.cheeseRefusal(3), 0);
            Check.same("another user", gate.cheeseRefusal(5), 0);
            gate.setClock(0, 1);
            Check.same("a minute later on the clock", gate.cheeseRefusal(1), 0);
            gate.setClock(0, -1);
            Check.same("a minute earlier on the clock", gate.cheeseRefusal(1), 0);
            gate.pass(1);
            Check.same("the same time on the clock, a minute later", gate.cheeseRefusal(1), 4);
        });
        Edge.of("Section 3 cheese", "5 the service has no cheeses", () -> {
            Gate gate = Check.loaded("gate 1 5;realm a 10 20 even;user u a 7 even;service s a 1;login u 7;request 0 s;");
            Check.same("one", gate.cheeseRefusal(1), 0);
            gate.cheese(1);
            gate.pass(1);
            Check.same("none", gate.cheeseRefusal(1), 5);
        });
    }

    private static void cheeseGiven() {
        Edge.of("Section 3 cheese", "The service has one cheese less, the owner one more, and the use is remembered", () -> {
            Gate gate = Check.loaded("gate 1 5;realm a 10 20 even;user v a 7 even;user u a 7 even;service t a 1;service s a 1;"
                    + "login u 7;request 0 s;");
            gate.cheese(1);
            Check.same("the last one is gone", gate.cheesesLeft(1), 0);
            Check.same("the other service's stays", gate.cheesesLeft(0), 1);
            Check.same("the owner has one", gate.cheesesOf(1), 1);
            Check.same("the other user has none", gate.cheesesOf(0), 0);
            Check.same("the use", gate.useCount(), 1);
        });
    }

    private static void inherited() {
        Edge.of("Section 3", "For refer and request, the new ticket is renewable if the old one is.", () -> {
            Gate gate = Check.loaded(HEAD + "login u 7;login u 7 renewable;refer 0 b;refer 1 b;request 0 s;request 1 s;");
            for (int t = 2; t < 6; t++) {
                Check.same("ticket " + t, gate.isRenewable(t), t % 2 == 1);
            }
        });
        Edge.of("Section 3", "Its end is the time plus the lifetime of the new realm, but at most the end of the old ticket.", () -> {
            int[] lifetimes = {1, 6, 7, 8, 999};
            int[] ends = {4, 9, 10, 10, 10};
            for (int i = 0; i < lifetimes.length; i++) {
                Gate gate = Check.loaded("gate 9 5;realm a 10 20 even;realm b " + lifetimes[i] + " 0 even;trust a b;user u a 7 even;"
                        + "service s a 1;login u 7;pass 3;refer 0 b;request 0 s;");
                Check.same("refer, lifetime " + lifetimes[i], gate.endOf(1), ends[i]);
                Check.same("request", gate.endOf(2), 10);
            }
        });
        String sentence = "If it is renewable, its last end is the time plus the renewable lifetime of the new realm, "
                + "but at most the last end of the old ticket, and at least its own end.";
        Edge.of("Section 3", sentence, () -> {
            int[] renewals = {0, 4, 5, 6, 16, 17, 18, 9999};
            int[] lastEnds = {8, 8, 8, 9, 19, 20, 20, 20};
            for (int i = 0; i < renewals.length; i++) {
                Gate gate = Check.loaded("gate 9 5;realm a 10 20 even;realm b 5 " + renewals[i] + " even;trust a b;user u a 7 even;"
                        + "service s a 1;login u 7 renewable;pass 3;refer 0 b;request 0 s;login u 7;refer 3 b;");
                Check.same("refer, renewable lifetime " + renewals[i], gate.lastEndOf(1), lastEnds[i]);
                Check.same("request", gate.lastEndOf(2), 20);
                Check.same("refer, not renewable", gate.lastEndOf(4), 8);
            }
        });
    }

    private static void uses() {
        Edge.of("Section 3", "A use consists of a user, a service, and the time that the clock of the user showed.", () -> {
            Gate gate = Check.loaded("gate 9 5;realm a 10 20 even;user u a 7 fast 3;service s a 9;login u 7;request 0 s;cheese 1;pass 1;");
            gate.setClock(0, 2);
            Check.same("the clock shows 3 again", gate.cheeseRefusal(1), 4);
            gate.setClock(0, 3);
            Check.same("it shows 4", gate.cheeseRefusal(1), 0);
            gate.setClock(0, -1);
            Check.same("it shows 0, the time of the use, not of its clock", gate.cheeseRefusal(1), 0);
            Gate least = Check.loaded("gate 9 5;realm a 10 20 even;user u a 7 slow 9;service s a 9;login u 7;request 0 s;cheese 1;");
            Check.same("a time less than 0", least.cheeseRefusal(1), 4);
            least.setClock(0, 9);
            Check.same("its opposite", least.cheeseRefusal(1), 0);
        });
        String sentence = "The gate remembers the latest 30 uses, but each one only until more minutes than the tolerance have passed "
                + "since then by the time of the gate.";
        Edge.of("Section 3", sentence, RuleEdges::latestUses);
        Edge.of("Section 3", sentence, RuleEdges::usesOfTolerance);
    }

    /** In one minute, by the offsets -9 to 9 of the clock, 38 uses of two services. */
    private static void latestUses() {
        Gate gate = Check.loaded("gate 9 5;realm a 10 20 even;user u a 7 even;service s a 99;service t a 99;login u 7;"
                + "request 0 s;request 0 t;");
        for (int use = 0; use < 30; use++) {
            useAt(gate, use);
        }
        Check.same("30 uses", gate.useCount(), 30);
        Check.same("the first is known", refusalAt(gate, 0), 4);
        Check.same("the 30th is known", refusalAt(gate, 29), 4);
        useAt(gate, 30);
        Check.same("30 uses of 31", gate.useCount(), 30);
        Check.same("the first is not known", refusalAt(gate, 0), 0);
        Check.same("the second is known", refusalAt(gate, 1), 4);
        Check.same("the 31st is known", refusalAt(gate, 30), 4);
        for (int use = 31; use < 38; use++) {
            useAt(gate, use);
            Check.same("one is pushed out by " + use, refusalAt(gate, use - 30), 0);
            Check.same("the next one is not", refusalAt(gate, use - 29), 4);
        }
        Check.same("30 uses of 38", gate.useCount(), 30);
    }

    private static void useAt(Gate gate, int use) {
        gate.setClock(0, use / 2 - 9);
        gate.cheese(1 + use % 2);
    }

    private static int refusalAt(Gate gate, int use) {
        gate.setClock(0, use / 2 - 9);
        return gate.cheeseRefusal(1 + use % 2);
    }

    /** The clock is put back by the minutes that have passed, so that it shows the time of the use. */
    private static void usesOfTolerance() {
        for (int tolerance = 0; tolerance <= 9; tolerance++) {
            Gate gate = Check.loaded("gate " + tolerance + " 5;realm a 99 0 slow 9;user u a 7 slow 9;service s a 9;"
                    + "login u 7;request 0 s;");
            gate.setClock(0, tolerance - 9);
            gate.cheese(1);
            for (int minute = 1; minute <= tolerance; minute++) {
                gate.pass(1);
                gate.setClock(0, tolerance - 9 - minute);
                Check.same("tolerance " + tolerance + ", " + minute + " minutes later", gate.cheeseRefusal(1), 4);
            }
            Check.same("tolerance " + tolerance + ", uses", gate.useCount(), 1);
            gate.pass(1);
            Check.same("tolerance " + tolerance + ", a minute too many", gate.useCount(), 0);
        }
    }
}
