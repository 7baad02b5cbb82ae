import java.util.LinkedHashMap;
import java.util.Map;

/** The promises 23 to 35: how many tickets there are, and what is told of one. */
final class TicketEdges {
    private static final String HEAD = "gate 9 5;realm a 10 20 even;realm b 999 9999 even;trust a b;trust b a;user u a 7 even;"
            + "user v b 7 even;"
            + "service s a 2;service t b 99;";

    private TicketEdges() {
    }

    static void run() {
        count();
        indexes();
        ofMissing();
        kinds();
        lives();
        keys();
        validity();
    }

    /** Of the numbers 0 to 8, 5, 6 and 7 are there, of which 6 is not valid any more. */
    private static Gate gaps() {
        return Check.loaded(HEAD + "login u 7;login u 7;login v 7;pass 10;sweep;drop 2;login v 7 renewable;drop 3;login u 7;drop 4;"
                + "login v 7;login u 7;request 5 t;login u 7;pass 10;drop 8;");
    }

    private static void count() {
        Edge.of("Promise 23", "Returns the number of tickets.", () -> {
            Check.same("none", Check.loaded(HEAD).ticketCount(), 0);
            Check.same("one", Check.loaded(HEAD + "login u 7;").ticketCount(), 1);
            Gate gate = Check.loaded(HEAD + "login u 7;".repeat(24));
            Check.same("the most", gate.ticketCount(), 24);
            gate.pass(10);
            Check.same("the most, none valid", gate.ticketCount(), 24);
            gate.drop(23);
            Check.same("one less", gate.ticketCount(), 23);
            gate.sweep();
            Check.same("none again", gate.ticketCount(), 0);
        });
    }

    private static void indexes() {
        Edge.of("Promise 24", "- `index`: an index, 0 for the ticket with the smallest number", () -> {
            Gate gate = gaps();
            Check.same("the smallest number", gate.ticketAt(0), 5);
            Check.same("the greatest number", gate.ticketAt(2), 7);
            gate.drop(5);
            Check.same("the smallest number is dropped", gate.ticketAt(0), 6);
            gate.login(1, 7, false);
            Check.same("the smallest number stays", gate.ticketAt(0), 6);
            Check.same("a new one comes last", gate.ticketAt(2), 9);
        });
        Edge.of("Promise 24", "Returns the number of the ticket.", () -> {
            Gate gate = Check.loaded(HEAD + "login v 7;".repeat(24));
            for (int index = 0; index < 24; index++) {
                Check.same("index " + index, gate.ticketAt(index), index);
            }
            gate.drop(11);
            Check.same("before the gap", gate.ticketAt(10), 10);
            Check.same("behind the gap", gate.ticketAt(11), 12);
            Check.same("the last one", gate.ticketAt(22), 23);
        });
        Edge.of("Promise 24", "Throws `IndexOutOfBoundsException` if there is no such index", () -> {
            Bounds.counted(() -> Check.loaded(HEAD), 0, Check.INDEX, Gate::ticketAt);
            Bounds.counted(TicketEdges::gaps, 3, Check.INDEX, Gate::ticketAt);
            Bounds.counted(() -> Check.loaded(HEAD + "login u 7;".repeat(24)), 24, Check.INDEX, Gate::ticketAt);
        });
    }

    /** The calls of a ticket's number, which throw if there is no ticket with it. */
    private static Map<Integer, Bounds.Numbered> calls() {
        Map<Integer, Bounds.Numbered> calls = new LinkedHashMap<>();
        calls.put(25, Gate::kindOf);
        calls.put(26, Gate::ownerOf);
        calls.put(27, Gate::realmOf);
        calls.put(28, Gate::serviceOf);
        calls.put(29, Gate::startOf);
        calls.put(30, Gate::endOf);
        calls.put(31, Gate::lastEndOf);
        calls.put(32, Gate::keyOf);
        calls.put(33, Gate::isRenewable);
        calls.put(34, Gate::isValid);
        calls.put(35, Gate::minutesLeft);
        calls.put(37, (gate, ticket) -> gate.referRefusal(ticket, 0));
        calls.put(38, (gate, ticket) -> gate.requestRefusal(ticket, 0));
        calls.put(39, Gate::renewRefusal);
        calls.put(40, Gate::cheeseRefusal);
        calls.put(43, Gate::minutesUntilCheese);
        calls.put(52, (gate, ticket) -> gate.refer(ticket, 0));
        calls.put(53, (gate, ticket) -> gate.request(ticket, 0));
        calls.put(54, Gate::renew);
        calls.put(55, Gate::cheese);
        calls.put(56, Gate::drop);
        calls.put(61, Gate::writeTicket);
        return calls;
    }

    private static void ofMissing() {
        for (Map.Entry<Integer, Bounds.Numbered> call : calls().entrySet()) {
            Edge.of("Promise " + call.getKey(), "Throws `NoSuchElementException` if the ticket does not exist", () -> {
                for (int there = 5; there <= 7; there++) {
                    Bounds.takes(TicketEdges::gaps, there, Check.ELEMENT, call.getValue());
                }
                for (int missing : new int[] {Integer.MIN_VALUE, -1, 0, 1, 2, 3, 4, 8, 9, 24, Integer.MAX_VALUE}) {
                    Bounds.throwsFor(TicketEdges::gaps, missing, Check.ELEMENT, call.getValue());
                }
                Bounds.throwsFor(() -> Check.loaded(HEAD), 0, Check.ELEMENT, call.getValue());
                Bounds.throwsFor(() -> Check.loaded(HEAD), TicketGate.NONE, Check.ELEMENT, call.getValue());
            });
        }
    }

    private static void kinds() {
        Gate gate = Check.loaded(HEAD + "login u 7 renewable;login v 7;refer 0 b;request 0 s;request 1 t;");
        Edge.of("Promise 25", "Returns its kind.", () -> {
            Check.same("of a login", gate.kindOf(0), 0);
            Check.same("of a referral", gate.kindOf(2), 0);
            Check.same("of a request", gate.kindOf(3), 1);
        });
        Edge.of("Promise 26", "Returns its owner.", () -> {
            Check.same("the first user", gate.ownerOf(3), 0);
            Check.same("the last user", gate.ownerOf(4), 1);
        });
        Edge.of("Promise 27", "Returns its realm.", () -> {
            Check.same("the first realm", gate.realmOf(3), 0);
            Check.same("the last realm", gate.realmOf(4), 1);
            Check.same("of a referral", gate.realmOf(2), 1);
        });
        Edge.of("Promise 28", "Returns its service; NONE if it is a gate ticket.", () -> {
            Check.same("the first service", gate.serviceOf(3), 0);
            Check.same("the last service", gate.serviceOf(4), 1);
            Check.same("of a login", gate.serviceOf(0), TicketGate.NONE);
            Check.same("of a referral", gate.serviceOf(2), TicketGate.NONE);
        });
        Edge.of("Promise 33", "Returns whether it is renewable.", () -> {
            Check.same("of a renewable login", gate.isRenewable(0), true);
            Check.same("of another login", gate.isRenewable(1), false);
            Gate equal = Check.loaded("gate 9 5;realm a 10 0 even;user u a 7 even;login u 7 renewable;pass 10;");
            Check.same("its last end is its end, and it is not valid", equal.isRenewable(0), true);
        });
    }

    private static void lives() {
        Gate gate = Check.loaded(HEAD + "login u 7 renewable;pass 9;login v 7 renewable;refer 0 b;login v 7;pass 999;login v 7;");
        Edge.of("Promise 29", "Returns its start.", () -> {
            Check.same("the least", gate.startOf(0), 0);
            Check.same("later", gate.startOf(1), 9);
            Check.same("of a referral", gate.startOf(2), 9);
            Check.same("after 999 minutes", gate.startOf(4), 1008);
            Gate renewed = Check.loaded(HEAD + "login u 7 renewable;pass 5;renew 0;");
            Check.same("of a renewed one", renewed.startOf(0), 0);
        });
        Edge.of("Promise 30", "Returns its end.", () -> {
            Check.same("of a short life", gate.endOf(0), 10);
            Check.same("of the longest life", gate.endOf(1), 1008);
            Check.same("of a referral in the last minute", gate.endOf(2), 10);
            Gate renewed = Check.loaded(HEAD + "login u 7 renewable;pass 9;renew 0;");
            Check.same("of a renewed one", renewed.endOf(0), 19);
        });
        Edge.of("Promise 31", "Returns its last end.", () -> {
            Check.same("of a renewable one", gate.lastEndOf(0), 20);
            Check.same("the longest", gate.lastEndOf(1), 9 + 9999);
            Check.same("of a referral, that of the old one", gate.lastEndOf(2), 20);
            Check.same("its end, of one that is not renewable", gate.lastEndOf(3), 1008);
        });
    }

    private static void keys() {
        Edge.of("Promise 32", "Returns its key.", () -> {
            Gate gate = Check.loaded("gate 9 341;realm a 10 20 even;user u a 7 even;service s a 1;login u 7 renewable;request 0 s;");
            Check.same("the least", gate.keyOf(0), 0);
            Check.same("the next one", gate.keyOf(1), 7);
            gate.pass(1);
            gate.renew(0);
            Check.same("of a renewed one", gate.keyOf(0), 154);
            Check.same("of the other one", gate.keyOf(1), 7);
            Gate most = Check.loaded("gate 9 536;realm a 10 20 even;user u a 7 even;login u 7;login u 7;");
            Check.same("the greatest", most.keyOf(0), 1023);
            Check.same("it wraps around", most.keyOf(1), 1010);
        });
    }

    private static void validity() {
        Edge.of("Promise 34", "Returns whether it is valid.", () -> {
            Gate gate = Check.loaded("gate 9 5;realm a 1 0 even;user u a 7 even;login u 7;");
            Check.same("in its only minute", gate.isValid(0), true);
            gate.pass(1);
            Check.same("at its end", gate.isValid(0), false);
            gate.pass(999);
            Check.same("long after it", gate.isValid(0), false);
            gate.undo();
            gate.undo();
            Check.same("before that", gate.isValid(0), true);
        });
        Edge.of("Promise 35", "Returns the minutes until its end; 0 if it is not valid.", () -> {
            Gate gate = Check.loaded(HEAD + "login v 7;login u 7;");
            Check.same("the most", gate.minutesLeft(0), 999);
            Check.same("ten", gate.minutesLeft(1), 10);
            gate.pass(9);
            Check.same("the last minute", gate.minutesLeft(1), 1);
            gate.pass(1);
            Check.same("at its end", gate.minutesLeft(1), 0);
            gate.pass(1);
            Check.same("after its end", gate.minutesLeft(1), 0);
            Check.same("of the other one", gate.minutesLeft(0), 988);
        });
    }
}
