import java.util.function.Consumer;

/** The promises 41 to 50: counts, waits, sums and shares. */
final class CountEdges {
    private static final String HEAD = "gate 9 5;realm a 10 20 even;realm b 999 9999 even;user u a 7 even;user v b 7 even;"
            + "service s a 9;service t b 99;";
    private static final String ALWAYS_0 = "this is always 0.";
    private static final String WAIT = "Returns the smallest number of minutes, 0 to 20, after which a cheese can be given for "
            + "the ticket; NONE if there is none.";
    private static final String BEST = "Returns the valid ticket of this owner for this service with the greatest end, the "
            + "smallest number if several have it; NONE if there is none.";

    private CountEdges() {
    }

    static void run() {
        validTickets();
        validAfter();
        shortWaits();
        longWaits();
        bestTicket();
        noBestTicket();
        useCount();
        cheeseDifference();
        lifeErrors();
        distanceErrors();
        validShare();
        averageLife();
    }

    private static void validTickets() {
        Edge.of("Promise 41", "Returns the number of valid tickets.", () -> {
            Check.same("of none", Check.loaded(HEAD).validTickets(), 0);
            Gate gate = Check.loaded(HEAD + "login u 7;".repeat(24));
            Check.same("of 24", gate.validTickets(), 24);
            gate.pass(9);
            Check.same("a minute before their end", gate.validTickets(), 24);
            gate.drop(0);
            gate.login(1, 7, false);
            gate.pass(1);
            Check.same("at their end, but one", gate.validTickets(), 1);
            gate.pass(998);
            Check.same("at its end", gate.validTickets(), 0);
        });
    }

    private static void validAfter() {
        Edge.of("Promise 42", "Returns the number of tickets that are valid after these minutes.", () -> {
            Gate gate = Check.loaded(HEAD + "login u 7;login v 7;pass 3;login u 7 renewable;");
            int[] minutes = {0, 6, 7, 9, 10, 995, 996, 999};
            int[] valid = {3, 3, 2, 2, 1, 1, 0, 0};
            for (int i = 0; i < minutes.length; i++) {
                Check.same("after " + minutes[i], gate.validAfter(minutes[i]), valid[i]);
            }
            Check.same("of none", Check.loaded(HEAD).validAfter(0), 0);
        });
        Edge.of("Promise 42", "- `minutes`: a number of minutes, 0 to 999", () -> {
            Gate gate = Check.loaded(HEAD + "login v 7;");
            Check.same("the least", gate.validAfter(0), 1);
            Check.same("a minute before its end", gate.validAfter(998), 1);
            Check.same("the most, at its end", gate.validAfter(999), 0);
            gate.login(1, 7, false);
            gate.pass(1);
            gate.login(1, 7, false);
            Check.same("the most, a minute before the end of none", gate.validAfter(999), 0);
            Check.same("one less", gate.validAfter(998), 1);
        });
        Edge.of("Promise 42", "Throws `IllegalArgumentException` if the number is out of range", () ->
            Bounds.ranged(Gate::new, 0, 999, Check.ARGUMENT, Gate::validAfter));
    }

    private static void shortWaits() {
        Edge.of("Promise 43", WAIT, () -> {
            Gate gate = Check.loaded(HEAD + "login u 7;request 0 s;pass 8;");
            Check.same("0", gate.minutesUntilCheese(1), 0);
            gate.cheese(1);
            Check.same("1, the last minute of the ticket", gate.minutesUntilCheese(1), 1);
            gate.pass(1);
            gate.cheese(1);
            Check.same("none, because the ticket ends", gate.minutesUntilCheese(1), TicketGate.NONE);
            gate.pass(1);
            Check.same("none, because it has ended", gate.minutesUntilCheese(1), TicketGate.NONE);
            Check.same("none for a gate ticket", gate.minutesUntilCheese(0), TicketGate.NONE);
        });
        Edge.of("Promise 43", WAIT, () -> {
            Gate gate = Check.loaded("gate 1 5;realm a 999 0 even;user u a 7 even;service s a 1;login u 7;request 0 s;");
            gate.setClock(0, 1);
            Check.same("as skewed as the tolerance", gate.minutesUntilCheese(1), 0);
            gate.setClock(0, 2);
            Check.same("none, because the skew stays", gate.minutesUntilCheese(1), TicketGate.NONE);
            gate.setClock(0, 0);
            gate.cheese(1);
            Check.same("none, because no cheeses are left", gate.minutesUntilCheese(1), TicketGate.NONE);
        });
    }

    /** Uses of one minute by the clocks 0 to tolerance minutes ahead meet the even clock in each minute that follows. */
    private static Gate waiting(int tolerance, int lifetime) {
        Gate gate = Check.loaded("gate " + tolerance + " 5;realm a " + lifetime + " 0 even;user u a 7 even;service s a 99;"
                + "login u 7;request 0 s;");
        for (int offset = tolerance; offset >= 0; offset--) {
            gate.setClock(0, offset);
            gate.cheese(1);
        }
        return gate;
    }

    /** A use is known for at most 9 minutes, so that no wait is longer than 10, and 20 is never reached. */
    private static void longWaits() {
        Edge.of("Promise 43", WAIT, () -> {
            for (int tolerance = 0; tolerance <= 9; tolerance++) {
                Check.same("tolerance " + tolerance, waiting(tolerance, 999).minutesUntilCheese(1), tolerance + 1);
                Check.same("it ends a minute later", waiting(tolerance, tolerance + 2).minutesUntilCheese(1), tolerance + 1);
                Check.same("it ends then", waiting(tolerance, tolerance + 1).minutesUntilCheese(1), TicketGate.NONE);
            }
            Gate gap = waiting(9, 999);
            gap.setClock(0, 5);
            Check.same("five minutes are met", gap.minutesUntilCheese(1), 5);
            gap.setClock(0, 9);
            Check.same("one is", gap.minutesUntilCheese(1), 1);
            gap.setClock(0, -9);
            Check.same("none is yet", gap.minutesUntilCheese(1), 0);
            gap.pass(9);
            Check.same("the last of the tolerance", gap.minutesUntilCheese(1), 1);
            gap.pass(1);
            Check.same("all are forgotten", gap.minutesUntilCheese(1), 0);
        });
    }

    private static void bestTicket() {
        Edge.of("Promise 44", BEST, () -> {
            Gate gate = Check.loaded(HEAD + "login u 7 renewable;request 0 s;request 0 s;pass 1;login u 7;request 3 s;"
                    + "request 3 s;request 0 s;");
            Check.same("the first of two with the greatest end", gate.bestTicket(0, 0), 4);
            gate.drop(4);
            Check.same("the second of them", gate.bestTicket(0, 0), 5);
            gate.renew(2);
            Check.same("an equal end and a smaller number", gate.bestTicket(0, 0), 2);
            gate.drop(2);
            gate.drop(5);
            Check.same("a minute less", gate.bestTicket(0, 0), 1);
            gate.pass(8);
            Check.same("in the last minute", gate.bestTicket(0, 0), 1);
            gate.pass(1);
            Check.same("at its end", gate.bestTicket(0, 0), TicketGate.NONE);
        });
        Edge.of("Promise 44", "Throws `IndexOutOfBoundsException` if the user or the service does not exist", () -> {
            Bounds.counted(Gate::new, 2, Check.INDEX, (gate, user) -> gate.bestTicket(user, 0));
            Bounds.counted(Gate::new, 2, Check.INDEX, (gate, service) -> gate.bestTicket(0, service));
            Bounds.counted(() -> Check.loaded("gate 0 0;"), 0, Check.INDEX, (gate, both) -> gate.bestTicket(both, both));
        });
    }

    private static void noBestTicket() {
        Edge.of("Promise 44", BEST, () -> {
            Gate gate = Check.loaded(HEAD + "login v 7;request 0 t;login u 7;request 2 s;");
            Check.same("of v for t", gate.bestTicket(1, 1), 1);
            Check.same("of u for s", gate.bestTicket(0, 0), 3);
            Check.same("of v for s", gate.bestTicket(1, 0), TicketGate.NONE);
            Check.same("of u for t", gate.bestTicket(0, 1), TicketGate.NONE);
            gate.drop(0);
            Check.same("the first of all tickets", gate.bestTicket(1, 1), 1);
            gate.drop(2);
            Check.same("the last of all tickets", gate.bestTicket(0, 0), 3);
            Check.same("of no tickets", Check.loaded(HEAD).bestTicket(0, 0), TicketGate.NONE);
            Check.same("of a gate ticket", Check.loaded(HEAD + "login u 7;").bestTicket(0, 0), TicketGate.NONE);
        });
    }

    private static void useCount() {
        Edge.of("Promise 45", "Returns the number of remembered uses.", () -> {
            Check.same("none", Check.loaded(HEAD).useCount(), 0);
            Gate gate = Check.loaded(HEAD + "login v 7;request 0 t;");
            for (int use = 1; use <= 40; use++) {
                gate.setClock(1, use % 19 - 9);
                Check.answer(() -> gate.cheese(1));
                gate.pass(use % 4 == 0 ? 1 : 2);
                Check.same("of the last ten minutes, use " + use, gate.useCount(), recent(use));
            }
        });
        Edge.of("Promise 45", "Returns the number of remembered uses.", () -> {
            Gate gate = Check.loaded("gate 9 5;realm a 10 20 even;user u a 7 even;service s a 99;service t a 99;login u 7;"
                    + "request 0 s;request 0 t;");
            for (int use = 1; use <= 38; use++) {
                gate.setClock(0, (use - 1) / 2 - 9);
                gate.cheese(1 + use % 2);
                Check.same("at most 30, use " + use, gate.useCount(), Math.min(30, use));
            }
            gate.pass(9);
            Check.same("as many minutes as the tolerance", gate.useCount(), 30);
            gate.pass(1);
            Check.same("one more", gate.useCount(), 0);
            gate.undo();
            Check.same("and back", gate.useCount(), 30);
        });
    }

    /** How many of the uses 1 to this one are at most 9 minutes ago, after the minutes that passed behind it. */
    private static int recent(int use) {
        int ago = 0;
        int count = 0;
        for (int i = use; i >= 1; i--) {
            ago += i % 4 == 0 ? 1 : 2;
            count += ago <= 9 ? 1 : 0;
        }
        return count;
    }

    private static void cheeseDifference() {
        String sentence = "Returns the cheeses of all services of the text minus those that the services have now and those of "
                + "all users; " + ALWAYS_0;
        Edge.of("Promise 46", sentence, () -> {
            Check.same("at first", new Gate().cheeseDifference(), 0);
            Check.same("no services", Check.loaded("gate 0 0;").cheeseDifference(), 0);
            Gate gate = Check.loaded(HEAD + "login u 7;request 0 s;cheese 1;login v 7;request 2 t;");
            Check.same("a cheese in the text", gate.cheeseDifference(), 0);
            gate.cheese(3);
            Check.same("another one", gate.cheeseDifference(), 0);
            gate.save(0);
            Check.load(gate, "gate 0 0;realm a 1 1 even;service s a 99;");
            Check.same("another text", gate.cheeseDifference(), 0);
            gate.restore(0);
            Check.same("restored", gate.cheeseDifference(), 0);
            gate.undo();
            Check.same("undone", gate.cheeseDifference(), 0);
            gate.undo();
            gate.undo();
            Check.same("the cheese undone", gate.cheeseDifference() + gate.cheesesOf(1), 0);
        });
        Edge.of("Promise 46", sentence, () -> eachTime(gate -> Check.same("time " + gate.time(), gate.cheeseDifference(), 0)));
    }

    /** Does what can be done, again and again, until tickets, cheeses and lives are at their ends. */
    private static void eachTime(Consumer<Gate> look) {
        Gate gate = new Gate();
        for (int minutes = 1; minutes <= 26; minutes++) {
            for (int ticket = 0; ticket < 3; ticket++) {
                int renewed = ticket;
                Check.answer(() -> gate.renew(renewed));
            }
            Check.answer(() -> gate.cheese(2));
            Check.answer(() -> gate.cheese(4));
            Check.answer(() -> gate.refer(0, 1));
            Check.answer(() -> gate.request(0, 1));
            look.accept(gate.twin());
            gate.pass(minutes);
            look.accept(gate.twin());
        }
        Check.same("all has ended", gate.twin().validTickets(), 0);
    }

    private static void lifeErrors() {
        String sentence = "Returns the number of tickets whose start is not less than their end, or whose end is greater than "
                + "their last end; " + ALWAYS_0;
        Edge.of("Promise 47", sentence, () -> {
            Check.same("at first", new Gate().lifeErrors(), 0);
            Check.same("no tickets", Check.loaded(HEAD).lifeErrors(), 0);
            String shortest = "gate 9 5;realm a 1 0 even;realm b 1 0 even;trust a b;user u a 7 even;service s a 2;login u 7;"
                    + "login u 7 renewable;";
            Check.same("lives of a minute", Check.loaded(shortest + "refer 1 b;request 1 s;pass 1;").lifeErrors(), 0);
            Check.same("ended ones", Check.loaded(HEAD + "login u 7;login v 7 renewable;pass 999;").lifeErrors(), 0);
            Gate last = Check.loaded(HEAD + "login u 7 renewable;pass 9;request 0 s;renew 0;pass 9;renew 0;");
            Check.same("an end at the last end", last.lifeErrors() + last.endOf(0), 20);
        });
        Edge.of("Promise 47", sentence, () -> eachTime(gate -> Check.same("time " + gate.time(), gate.lifeErrors(), 0)));
    }

    private static void distanceErrors() {
        String sentence = "Returns the number of pairs of realms for which the distance differs from the one that is found by "
                + "going through all realms "
                + "as halfway realms; " + ALWAYS_0;
        Edge.of("Promise 48", sentence, () -> {
            Check.same("at first", new Gate().distanceErrors(), 0);
            Check.same("no realms", Check.loaded("gate 0 0;").distanceErrors(), 0);
            String five = "gate 0 0;realm a 1 0 even;realm b 1 0 even;realm c 1 0 even;realm d 1 0 even;realm e 1 0 even;";
            String[] ways = {"ab", "bc", "cd", "de", "ea", "ac", "ce", "da", "eb", "bd", "ba", "cb"};
            for (int chosen = 0; chosen < 1 << ways.length; chosen += 5) {
                StringBuilder text = new StringBuilder(five);
                for (int i = 0; i < ways.length; i++) {
                    text.append((chosen >> i & 1) == 0 ? "" : "trust " + ways[i].charAt(0) + " " + ways[i].charAt(1) + ";");
                }
                Check.same("ways " + chosen, Check.loaded(text.toString()).distanceErrors(), 0);
            }
        });
    }

    private static void validShare() {
        String sentence = "Returns the number of valid tickets converted to float, divided by the number of tickets converted "
                + "to float; 0.0f if there are none.";
        Edge.of("Promise 49", sentence, () -> {
            Check.same("none", Check.loaded(HEAD).validShare(), 0.0f);
            Gate gate = Check.loaded(HEAD + "login u 7;".repeat(23) + "pass 1;login v 7;");
            Check.same("all", gate.validShare(), 1.0f);
            gate.pass(9);
            Check.same("one of 24", gate.validShare(), 1.0f / 24.0f);
            for (int left = 23; left >= 2; left--) {
                gate.drop(left - 1);
                Check.same("one of " + left, gate.validShare(), 1.0f / left);
            }
            gate.pass(990);
            Check.same("none of two", gate.validShare(), 0.0f);
            gate.sweep();
            Check.same("none is left", gate.validShare(), 0.0f);
            Gate most = Check.loaded(HEAD + "login u 7;pass 1;" + "login u 7;".repeat(22) + "pass 9;");
            Check.same("22 of 23", most.validShare(), 22.0f / 23.0f);
        });
    }

    private static void averageLife() {
        String sentence = "Returns the sum of the differences of end and start of all tickets converted to double, divided by "
                + "their number converted to "
                + "double; 0.0 if there are none.";
        Edge.of("Promise 50", sentence, () -> {
            Check.same("none", Check.loaded(HEAD).averageLife(), 0.0);
            Check.same("the least", Check.loaded("gate 0 0;realm a 1 0 even;user u a 7 even;login u 7;").averageLife(), 1.0);
            Check.same("24 of the greatest", Check.loaded(HEAD + "login v 7;".repeat(24)).averageLife(), 999.0);
            Gate gate = Check.loaded(HEAD + "login u 7;pass 3;login u 7 renewable;request 0 s;");
            Check.same("a third", gate.averageLife(), 27.0 / 3.0);
            gate.login(1, 7, false);
            Check.same("a quarter", gate.averageLife(), 1026.0 / 4.0);
            gate.pass(7);
            Check.same("of those that are not valid too", gate.averageLife(), 1026.0 / 4.0);
            gate.renew(1);
            Check.same("a longer life", gate.averageLife(), 1033.0 / 4.0);
            gate.drop(3);
            Check.same("broken", gate.averageLife(), 34.0 / 3.0);
            gate.pass(999);
            gate.sweep();
            Check.same("none is left", gate.averageLife(), 0.0);
        });
    }
}
