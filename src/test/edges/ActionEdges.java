/** The promises 56 to 60: dropping, sweeping, passwords, clocks and minutes. */
final class ActionEdges {
    private static final String HEAD = "gate 9 5;realm a 10 20 even;realm b 999 9999 even;user u a 7 even;user v b 0 even;"
            + "service s a 9;service t b 99;";
    private static final String NO_USER = "Throws `IndexOutOfBoundsException` if the user does not exist";

    private ActionEdges() {
    }

    static void run() {
        drop();
        sweep();
        setPassword();
        passwordBounds();
        setClock();
        clockBounds();
        pass();
        passBounds();
    }

    private static Gate three() {
        return Check.loaded(HEAD + "login u 7;request 0 s;login v 0;");
    }

    private static String numbers(Gate gate) {
        StringBuilder text = new StringBuilder();
        for (int i = 0; i < gate.ticketCount(); i++) {
            text.append(gate.ticketAt(i)).append(' ');
        }
        return text.toString().trim();
    }

    private static void drop() {
        Edge.of("Promise 56", "A ticket is dropped.", () -> {
            int[] dropped = {0, 1, 2};
            String[] left = {"1 2", "0 2", "0 1"};
            for (int i = 0; i < dropped.length; i++) {
                Gate gate = three();
                gate.drop(dropped[i]);
                Check.same("without " + dropped[i], numbers(gate), left[i]);
            }
            Gate gate = three();
            gate.drop(0);
            Check.same("a ticket made with it stays", gate.cheeseRefusal(1), 0);
            Gate ended = three();
            ended.pass(10);
            Check.same("one that is not valid", ended.drop(0), 2);
        });
        Edge.of("Promise 56", "Returns the number of tickets afterwards.", () -> {
            Gate gate = Check.loaded(HEAD + "login u 7;".repeat(24));
            for (int left = 23; left >= 0; left--) {
                Check.same("left", gate.drop(left), left);
            }
            Check.fails("of none", Check.ELEMENT, () -> gate.drop(0));
        });
    }

    private static void sweep() {
        Edge.of("Promise 57", "All tickets that are not valid are swept away.", () -> {
            Gate gate = Check.loaded(HEAD + "login u 7;login v 0;login u 7;login v 0;login u 7;pass 9;");
            gate.sweep();
            Check.same("a minute before their end", numbers(gate), "0 1 2 3 4");
            gate.pass(1);
            gate.sweep();
            Check.same("at their end", numbers(gate), "1 3");
            gate.pass(988);
            gate.sweep();
            Check.same("before the end of the others", numbers(gate), "1 3");
            gate.pass(1);
            gate.sweep();
            Check.same("all", numbers(gate), "");
        });
        Edge.of("Promise 57", "Returns the number of tickets that were swept away.", () -> {
            Check.same("of none", Check.loaded(HEAD).sweep(), 0);
            Gate gate = Check.loaded(HEAD + "login u 7;".repeat(24));
            Check.same("of 24 valid ones", gate.sweep(), 0);
            gate.pass(10);
            Check.same("of 24 that are not", gate.sweep(), 24);
            Check.same("again", gate.sweep(), 0);
        });
    }

    private static void setPassword() {
        Edge.of("Promise 58", "Sets the password of a user.", () -> {
            Gate gate = three();
            gate.setPassword(0, 8);
            Check.same("the new one is right", gate.loginRefusal(0, 8), 0);
            Check.same("the old one is wrong", gate.loginRefusal(0, 7), 1);
            Check.same("that of the other user stays", gate.loginRefusal(1, 0), 0);
        });
        Edge.of("Promise 58", "Tickets stay as they are.", () -> {
            Gate gate = three();
            gate.setPassword(0, 8);
            Check.same("all are there", numbers(gate), "0 1 2");
            Check.same("and valid", gate.validTickets(), 3);
            Check.same("key, start and end", gate.keyOf(0) + " " + gate.startOf(0) + " " + gate.endOf(0), "112 0 10");
            Check.same("for a request", gate.request(0, 0), 3);
            Check.same("for a cheese", gate.cheese(1), 1);
        });
        Edge.of("Promise 58", "Returns the former password.", () -> {
            Gate gate = three();
            Check.same("of the text", gate.setPassword(0, 9999), 7);
            Check.same("the greatest", gate.setPassword(0, 0), 9999);
            Check.same("the least", gate.setPassword(0, 0), 0);
            Check.same("the same", gate.setPassword(0, 1), 0);
            Check.same("of the other user", gate.setPassword(1, 1), 0);
        });
    }

    private static void passwordBounds() {
        Edge.of("Promise 58", "- `password`: a password, 0 to 9999", () -> {
            Gate gate = three();
            gate.setPassword(0, 0);
            Check.same("the least can be used", gate.loginRefusal(0, 0), 0);
            gate.setPassword(0, 9999);
            Check.same("the greatest can be used", gate.loginRefusal(0, 9999), 0);
        });
        Edge.of("Promise 58", "Throws `IllegalArgumentException` if the password is out of range", () ->
            Bounds.ranged(ActionEdges::three, 0, 9999, Check.ARGUMENT, (gate, password) -> gate.setPassword(1, password)));
        Edge.of("Promise 58", NO_USER, () -> Bounds.counted(ActionEdges::three, 2, Check.INDEX, (gate, user) -> gate.setPassword(user, 1)));
    }

    private static void setClock() {
        Edge.of("Promise 59", "Sets the offset of the clock of a user.", () -> {
            Gate gate = three();
            gate.setClock(0, 9);
            Check.same("9", gate.skew(0, 0), 9);
            Check.same("the other user's stays", gate.skew(1, 0), 0);
            gate.setClock(0, -9);
            Check.same("-9", gate.skew(0, 0), 9);
            gate.setClock(0, 0);
            Check.same("0", gate.skew(0, 0), 0);
            gate.cheese(1);
            gate.setClock(0, 1);
            Check.same("it is the clock that a use is told by", gate.cheeseRefusal(1), 0);
            gate.setClock(0, 0);
            Check.same("a use keeps its time", gate.cheeseRefusal(1), 4);
        });
        Edge.of("Promise 59", "Returns the former offset.", () -> {
            Gate gate = Check.loaded("gate 9 5;realm a 1 0 even;user u a 7 slow 9;user v a 7 fast 9;");
            Check.same("the least", gate.setClock(0, 9), -9);
            Check.same("the greatest", gate.setClock(0, 9), 9);
            Check.same("the same", gate.setClock(0, 0), 9);
            Check.same("none", gate.setClock(0, -9), 0);
            Check.same("of the other user", gate.setClock(1, 0), 9);
        });
    }

    private static void clockBounds() {
        Edge.of("Promise 59", "- `offset`: an offset, -9 to 9", () -> {
            for (int offset = -9; offset <= 9; offset++) {
                Gate gate = three();
                Check.same("it was 0", gate.setClock(0, offset), 0);
                Check.same("it is " + offset, gate.setClock(0, 0), offset);
            }
        });
        Edge.of("Promise 59", "Throws `IllegalArgumentException` if the offset is out of range", () ->
            Bounds.ranged(ActionEdges::three, -9, 9, Check.ARGUMENT, (gate, offset) -> gate.setClock(1, offset)));
        Edge.of("Promise 59", NO_USER, () -> Bounds.counted(ActionEdges::three, 2, Check.INDEX, (gate, user) -> gate.setClock(user, 1)));
    }

    private static void pass() {
        Edge.of("Promise 60", "Minutes pass.", () -> {
            Gate gate = Check.loaded("gate 2 5;realm a 10 20 slow 2;user u a 7 even;service s a 9;login u 7;request 0 s;cheese 1;");
            gate.pass(1);
            Check.same("the time", gate.time(), 1);
            Check.same("the clock of a realm", gate.clockOf(0), -1);
            gate.pass(1);
            Check.same("a use of two minutes ago", gate.useCount(), 1);
            gate.pass(1);
            Check.same("a use of three minutes ago", gate.useCount(), 0);
            gate.pass(7);
            Check.same("tickets stay", gate.ticketCount(), 2);
            Check.same("the seed stays", gate.seed(), gate.keyOf(1));
        });
        Edge.of("Promise 60", "Returns the number of tickets that were valid before and are not valid any more.", () -> {
            Check.same("of none", Check.loaded(HEAD).pass(999), 0);
            Gate gate = Check.loaded(HEAD + "login u 7;".repeat(23) + "login v 0;");
            Check.same("to a minute before the end", gate.pass(9), 0);
            Check.same("to the end", gate.pass(1), 23);
            Check.same("they were not valid before", gate.pass(1), 0);
            Check.same("the last one", gate.pass(999), 1);
            Check.same("none is left", gate.pass(999), 0);
            Gate most = Check.loaded(HEAD + "login v 0;".repeat(24));
            Check.same("998 minutes", most.pass(998), 0);
            most.undo();
            Check.same("999 minutes", most.pass(999), 24);
        });
    }

    private static void passBounds() {
        Edge.of("Promise 60", "- `minutes`: a number of minutes, 1 to 999", () -> {
            Gate gate = three();
            gate.pass(1);
            Check.same("the least", gate.time(), 1);
            gate.pass(999);
            Check.same("the greatest", gate.time(), 1000);
        });
        Edge.of("Promise 60", "Throws `IllegalArgumentException` if the number is out of range", () ->
            Bounds.ranged(ActionEdges::three, 1, 999, Check.ARGUMENT, Gate::pass));
        Edge.of("Promise 60", "Throws `IllegalArgumentException` if the number is out of range", () ->
            Twin.refuses("0, which a text may say", Check.ARGUMENT, Gate::new, gate -> gate.pass(0)));
    }
}
