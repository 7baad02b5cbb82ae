/** The promises 41 to 50: counts, sums, shares and questions about the future. */
public final class CountsTest {
    private static final String HEAD = "gate 2 1;realm a 30 90 even;user u a 7 even;user v a 7 even;service s a 9;service t a 1;";

    public static void main(String[] args) {
        valid();
        wait20();
        best();
        uses();
        shares();
        errors();
        Check.end();
    }

    private static void valid() {
        Gate gate = Check.loaded(HEAD + "login u 7;pass 10;login u 7;login v 7;");
        Check.same("now", gate.validTickets(), 3);
        Check.same("after 0", gate.validAfter(0), 3);
        Check.same("after 19", gate.validAfter(19), 3);
        Check.same("after 20", gate.validAfter(20), 2);
        Check.same("after 29", gate.validAfter(29), 2);
        Check.same("after 30", gate.validAfter(30), 0);
        Check.same("after 999", gate.validAfter(999), 0);
        for (int bad : new int[] {-1, 1000, Integer.MAX_VALUE, Integer.MIN_VALUE}) {
            Check.fails("after " + bad, Check.ARGUMENT, () -> gate.validAfter(bad));
        }
        gate.pass(20);
        Check.same("two are valid", gate.validTickets(), 2);
        Check.same("one is not", gate.isValid(0), false);
        Check.same("no minutes left", gate.minutesLeft(0), 0);
        Check.same("minutes left", gate.minutesLeft(1), 10);
        gate.pass(5);
        Check.same("still none", gate.minutesLeft(0), 0);
        Check.same("all three are there", gate.ticketCount(), 3);
        gate.pass(5);
        Check.same("none", gate.validTickets(), 0);
    }

    private static void wait20() {
        Gate gate = Check.loaded(HEAD + "login u 7;request 0 s;request 0 t;");
        Check.same("a gate ticket", gate.minutesUntilCheese(0), TicketGate.NONE);
        Check.fails("no ticket", Check.ELEMENT, () -> gate.minutesUntilCheese(3));
        Check.same("now", gate.minutesUntilCheese(1), 0);
        gate.cheese(1);
        Check.same("in a minute", gate.minutesUntilCheese(1), 1);
        gate.cheese(2);
        Check.same("no cheeses left", gate.minutesUntilCheese(2), TicketGate.NONE);
        Gate far = Check.loaded("gate 9 1;realm a 30 0 slow 1;user u a 7 fast 8;service s a 9;login u 7;request 0 s;");
        for (int minute = 0; minute < 9; minute++) {
            far.cheese(1);
            far.pass(1);
        }
        far.setClock(0, -1);
        Check.same("remembered before none left", far.cheeseRefusal(1), 4);
        Check.same("none left", far.minutesUntilCheese(1), TicketGate.NONE);
        Gate more = Check.loaded("gate 9 1;realm a 30 0 slow 1;user u a 7 fast 8;service s a 19;login u 7;request 0 s;");
        for (int minute = 0; minute < 9; minute++) {
            more.cheese(1);
            more.pass(1);
        }
        Check.same("now by the fast clock", more.minutesUntilCheese(1), 0);
        more.setClock(0, -1);
        // Shown 8 + k was used at the time k; at 9 + m the clock shows 8 + m, used at m, known while 9 <= 9.
        Check.same("each minute meets an old use", more.minutesUntilCheese(1), 9);
        more.setClock(0, 9);
        Check.same("skewed", more.minutesUntilCheese(1), TicketGate.NONE);
        more.setClock(0, 0);
        // At 9 + m the clock shows 9 + m, used at m + 1, known while 8 <= 9.
        Check.same("another clock", more.minutesUntilCheese(1), 8);
        more.pass(2);
        Check.same("two minutes less", more.minutesUntilCheese(1), 6);
        Gate late = Check.loaded(HEAD + "login u 7;request 0 s;pass 29;cheese 1;");
        Check.same("it ends before", late.minutesUntilCheese(1), TicketGate.NONE);
        late.pass(1);
        Check.same("it has ended", late.minutesUntilCheese(1), TicketGate.NONE);
    }

    private static void best() {
        Gate gate = Check.loaded(HEAD + "login u 7;login v 7;pass 5;login u 7;request 0 s;request 2 s;request 2 s;"
                + "request 1 s;request 0 t;");
        Check.same("u for s", gate.bestTicket(0, 0), 4);
        Check.same("v for s", gate.bestTicket(1, 0), 6);
        Check.same("u for t", gate.bestTicket(0, 1), 7);
        Check.same("v for t", gate.bestTicket(1, 1), TicketGate.NONE);
        gate.drop(4);
        Check.same("the next one", gate.bestTicket(0, 0), 5);
        gate.drop(5);
        Check.same("the shorter one", gate.bestTicket(0, 0), 3);
        gate.pass(24);
        Check.same("the last minute", gate.bestTicket(0, 0), 3);
        gate.pass(1);
        Check.same("not valid any more", gate.bestTicket(0, 0), TicketGate.NONE);
        gate.undo();
        gate.drop(0);
        gate.drop(1);
        gate.drop(2);
        Check.same("the first of all", gate.bestTicket(0, 0), 3);
        Check.fails("no user", Check.INDEX, () -> gate.bestTicket(2, 0));
        Check.fails("no user", Check.INDEX, () -> gate.bestTicket(-1, 0));
        Check.fails("no service", Check.INDEX, () -> gate.bestTicket(0, 2));
        Check.fails("no service", Check.INDEX, () -> gate.bestTicket(0, -1));
    }

    private static void uses() {
        Gate gate = Check.loaded(HEAD + "login u 7;request 0 s;request 0 t;login v 7;request 3 s;");
        Check.same("none", gate.useCount(), 0);
        gate.cheese(1);
        gate.cheese(2);
        Check.same("two", gate.useCount(), 2);
        gate.pass(1);
        gate.cheese(1);
        Check.same("v has asked for none", gate.cheeseRefusal(4), 0);
        gate.cheese(4);
        Check.same("v has", gate.cheeseRefusal(4), 4);
        Check.same("four", gate.useCount(), 4);
        gate.pass(1);
        Check.same("as many minutes as the tolerance", gate.useCount(), 4);
        gate.pass(1);
        Check.same("more", gate.useCount(), 2);
        gate.pass(1);
        Check.same("all forgotten", gate.useCount(), 0);
        // More than 30: by nine minutes of four services the first ones of the tolerance's time are pushed out.
        Gate many = Check.loaded("gate 9 1;realm a 30 0 even;user u a 7 even;service s a 99;service t a 99;service v a 99;"
                + "service w a 99;login u 7;request 0 s;request 0 t;request 0 v;request 0 w;");
        for (int minute = 0; minute < 7; minute++) {
            for (int t = 1; t <= 4; t++) {
                many.cheese(t);
            }
            many.pass(1);
        }
        Check.same("28", many.useCount(), 28);
        many.cheese(1);
        many.cheese(2);
        Check.same("30", many.useCount(), 30);
        many.setClock(0, -7);
        Check.same("the first use is known", many.cheeseRefusal(1), 4);
        many.setClock(0, 0);
        many.cheese(3);
        Check.same("still 30", many.useCount(), 30);
        many.setClock(0, -7);
        Check.same("the first use is not", many.cheeseRefusal(1), 0);
        Check.same("the second use is", many.cheeseRefusal(2), 4);
        many.cheese(1);
        Check.same("the second use is not", many.cheeseRefusal(2), 0);
        Check.same("the third use is", many.cheeseRefusal(3), 4);
        Check.same("cheeses", many.cheesesOf(0), 32);
        Check.same("difference", many.cheeseDifference(), 0);
    }

    private static void shares() {
        Gate gate = Check.loaded(HEAD);
        Check.same("share of none", gate.validShare(), 0.0f);
        Check.same("life of none", gate.averageLife(), 0.0);
        Check.load(gate, HEAD + "login u 7;pass 7;request 0 s;pass 13;login v 7;");
        Check.same("share of all", gate.validShare(), 1.0f);
        Check.same("life", gate.averageLife(), (30 + 23 + 30) / 3.0);
        gate.pass(10);
        Check.same("share of a third", gate.validShare(), 1.0f / 3.0f);
        Check.same("life stays", gate.averageLife(), 83.0 / 3.0);
        gate.login(0, 7, true);
        gate.pass(3);
        gate.renew(3);
        Check.same("a renewed life", gate.averageLife(), (30 + 23 + 30 + 33) / 4.0);
        gate.drop(2);
        Check.same("share", gate.validShare(), 1.0f / 3.0f);
        gate.pass(99);
        Check.same("share", gate.validShare(), 0.0f);
        gate.sweep();
        Check.same("no life", gate.averageLife(), 0.0);
    }

    private static void errors() {
        Gate gate = new Gate();
        for (int round = 0; round < 20; round++) {
            gate.pass(3);
            Check.answer(() -> gate.cheese(4));
            Check.answer(() -> gate.renew(0));
            Check.answer(() -> gate.login(0, 11, true));
            Check.same("cheese difference", gate.cheeseDifference(), 0);
            Check.same("life errors", gate.lifeErrors(), 0);
            Check.same("distance errors", gate.distanceErrors(), 0);
        }
        Check.same("brie is gone", gate.cheesesLeft(0), 0);
        Check.load(gate, HEAD);
        Check.same("of the new text", gate.cheeseDifference(), 0);
        gate.undo();
        Check.same("of the old text", gate.cheeseDifference(), 0);
    }
}
