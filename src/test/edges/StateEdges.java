import java.util.ArrayList;
import java.util.LinkedHashMap;
import java.util.List;
import java.util.Map;
import java.util.function.Consumer;

/** The section 6: what the state is, what is remembered, and which calls change nothing. */
final class StateEdges {
    private static final String OTHER = "gate 9 77;realm cob 9 99 slow 2;realm new 5 6 fast 1;trust new cob;"
            + "user ann new 22 fast 3;service goat cob 9;"
            + "service one new 4;login ann 22 renewable;request 0 one;cheese 1;pass 2;";

    private StateEdges() {
    }

    static void run() {
        state();
        undoable();
        latestEight();
        outside();
        throwing();
        firstException();
        questions();
        future();
        start();
    }

    /** A gate that has all: remembered calls, a slot, an error, an output, some input, a use, an ended ticket. */
    private static Gate busy() {
        Gate gate = new Gate();
        Check.answer(() -> Check.load(gate, "gate 2 5;?"));
        gate.save(1);
        gate.writeTicket(2);
        gate.pass(2);
        gate.login(0, 11, true);
        gate.pass(38);
        gate.login(1, 22, false);
        gate.request(6, 0);
        gate.cheese(7);
        Check.put(gate, "cob");
        return gate;
    }

    private static Map<String, Consumer<Gate>> undoables() {
        Map<String, Consumer<Gate>> calls = new LinkedHashMap<>();
        calls.put("load", gate -> Check.load(gate, OTHER));
        calls.put("login", gate -> gate.login(0, 11, true));
        calls.put("refer", gate -> gate.refer(0, 1));
        calls.put("request", gate -> gate.request(0, 1));
        calls.put("renew", gate -> gate.renew(0));
        calls.put("cheese", gate -> {
            gate.pass(1);
            gate.undo();
            gate.cheese(2);
        });
        calls.put("drop", gate -> gate.drop(0));
        calls.put("drop of an ended one", gate -> gate.drop(1));
        calls.put("sweep", Gate::sweep);
        calls.put("setPassword", gate -> gate.setPassword(0, 7));
        calls.put("setClock", gate -> gate.setClock(0, 0));
        calls.put("pass", gate -> gate.pass(1));
        calls.put("pass of the most", gate -> gate.pass(999));
        calls.put("restore", gate -> gate.restore(1));
        return calls;
    }

    private static void state() {
        Edge.of("Section 6", "The state consists of everything that sections 1 to 3 describe.", () -> {
            for (Map.Entry<String, Consumer<Gate>> call : undoables().entrySet()) {
                boolean loads = call.getKey().equals("load");
                Twin.unchanged(call.getKey() + " and undo", () -> ofFewCalls(loads), gate -> {
                    call.getValue().accept(gate);
                    gate.undo();
                });
            }
        });
        Edge.of("Section 6", "The state consists of everything that sections 1 to 3 describe.", () -> {
            Gate gate = new Gate();
            gate.save(0);
            gate.drop(4);
            gate.setPassword(0, 7);
            gate.setClock(1, -9);
            Check.load(gate, OTHER);
            gate.restore(0);
            Check.same("the next number", gate.login(0, 11, false), 5);
            Check.same("the seed", gate.seed(), (21 * 852 + 7) % 1024);
            Check.same("a remembered use", gate.cheeseRefusal(4), 0);
            gate.undo();
            gate.setClock(1, 3);
            Check.same("its time on the clock", gate.cheeseRefusal(4), 4);
            Check.same("cheeses", gate.cheesesOf(1) + gate.cheesesLeft(0), 3);
            Check.same("names", Check.find(gate, "brie"), 200);
        });
    }

    /** Of busy ones, but with room for one more remembered call; load leaves no error and no input. */
    private static Gate ofFewCalls(boolean loads) {
        Gate gate = busy();
        gate.restore(1);
        gate.undo();
        gate.undo();
        if (loads) {
            Check.load(gate, OTHER);
            gate.undo();
        }
        return gate;
    }

    private static void undoable() {
        String sentence = "Undoable methods are load if the text has no error, and login, refer, request, renew, cheese, drop, sweep, "
                + "setPassword, setClock, pass and restore if they throw no exception.";
        Edge.of("Section 6", sentence, () -> {
            for (Map.Entry<String, Consumer<Gate>> call : undoables().entrySet()) {
                Gate gate = new Gate();
                gate.save(1);
                call.getValue().accept(gate);
                Check.same("undo after " + call.getKey(), Check.answer(gate::undo), 0);
                Check.same("state before " + call.getKey(), Check.picture(gate), Check.picture(new Gate()));
            }
        });
        Edge.of("Section 6", sentence, () -> {
            Gate gate = busy();
            int calls = remembered(busy());
            Check.same("remembered", calls, 6);
            refusedCalls().values().forEach(call -> Check.answer(() -> {
                call.accept(gate);
                return "";
            }));
            gate.save(0);
            gate.writeTicket(0);
            Check.picture(gate);
            Check.same("as many as before", remembered(gate), calls);
        });
        Edge.of("Section 6", sentence, () -> {
            Gate gate = new Gate();
            gate.sweep();
            gate.setPassword(0, 11);
            gate.setClock(0, -1);
            gate.save(0);
            gate.restore(0);
            Check.same("calls that find nothing to change are remembered", remembered(gate), 4);
        });
    }

    private static int remembered(Gate gate) {
        int calls = 0;
        while (Check.answer(gate::undo) instanceof Integer) {
            calls++;
        }
        return calls;
    }

    private static void latestEight() {
        Edge.of("Section 6", "The latest 8 undoable calls are remembered; load does not discard them.", () -> {
            for (int calls = 0; calls <= 25; calls++) {
                Gate gate = new Gate();
                for (int i = 0; i < calls; i++) {
                    gate.pass(1);
                }
                Check.same("of " + calls + " calls", remembered(gate), Math.min(8, calls));
                Check.same("time before them", gate.time(), 6 + calls - Math.min(8, calls));
            }
        });
        Edge.of("Section 6", "The latest 8 undoable calls are remembered; load does not discard them.", () -> {
            Gate gate = new Gate();
            for (int i = 0; i < 7; i++) {
                gate.pass(1);
            }
            Check.load(gate, OTHER);
            Check.same("load is the eighth", remembered(gate), 8);
            Check.same("all are undone", Check.picture(gate), Check.picture(new Gate()));
            for (int i = 0; i < 8; i++) {
                gate.pass(1);
            }
            Check.load(gate, OTHER);
            Check.same("load is the ninth", remembered(gate), 8);
            Check.same("all but the first are undone", gate.time(), 7);
            gate.pass(1);
            Check.answer(() -> Check.load(gate, "gate"));
            Check.same("a text with an error discards none", remembered(gate), 1);
        });
        Edge.of("Section 6", "Undo restores the state before the latest remembered call.", () -> {
            Gate gate = new Gate();
            List<String> pictures = new ArrayList<>();
            for (Consumer<Gate> call : List.<Consumer<Gate>>of(g -> g.pass(1), g -> g.login(0, 11, true), g -> g.refer(5, 1),
                    g -> g.setPassword(1, 7), g -> g.drop(5), g -> Check.load(g, OTHER), g -> g.sweep(), g -> g.setClock(0, 9))) {
                pictures.add(Check.picture(gate));
                call.accept(gate);
            }
            for (int left = 7; left >= 0; left--) {
                Check.same("left", gate.undo(), left);
                Check.same("state", Check.picture(gate), pictures.get(left));
            }
        });
        Edge.of("Section 6", "Undo restores the state before the latest remembered call.", () -> {
            Gate gate = new Gate();
            for (int i = 0; i < 8; i++) {
                gate.pass(1);
            }
            for (int i = 0; i < 5; i++) {
                gate.undo();
            }
            for (int i = 0; i < 6; i++) {
                gate.pass(10);
            }
            Check.same("of three old and six new calls", remembered(gate), 8);
            Check.same("the first of the old ones stays", gate.time(), 7);
        });
    }

    private static void outside() {
        Edge.of("Section 6", "The input buffer, the error, the output and the saved states are not part of the state.", () -> {
            for (String way : new String[] {"undo", "restore"}) {
                Gate gate = new Gate();
                gate.save(0);
                gate.pass(1);
                Check.answer(() -> Check.load(gate, "gate 2 5;?"));
                gate.save(1);
                gate.writeTicket(3);
                Check.put(gate, "cob");
                Check.same(way, way.equals("undo") ? gate.undo() : gate.restore(0), way.equals("undo") ? 0 : 6);
                Check.same("input after " + way, gate.findName(), 2);
                Check.same("error after " + way, gate.errorCode() * 100 + gate.errorPosition(), 109);
                Check.same("output after " + way, Check.output(gate), "3:ben@bay 45");
                Check.same("slot 1 after " + way, gate.restore(1), 7);
                Check.same("slot 0 after " + way, gate.restore(0), 6);
            }
        });
    }

    private static Map<String, Consumer<Gate>> refusedCalls() {
        Map<String, Consumer<Gate>> calls = new LinkedHashMap<>();
        calls.put("truncateInput", gate -> gate.truncateInput(4));
        calls.put("login, refused", gate -> gate.login(0, 12, true));
        calls.put("login, no user", gate -> gate.login(2, 11, true));
        calls.put("login, no password", gate -> gate.login(0, 10000, true));
        calls.put("refer, refused", gate -> gate.refer(0, 2));
        calls.put("refer, no ticket", gate -> gate.refer(8, 1));
        calls.put("refer, no realm", gate -> gate.refer(0, 3));
        calls.put("request, refused", gate -> gate.request(0, 0));
        calls.put("request, no ticket", gate -> gate.request(-1, 1));
        calls.put("request, no service", gate -> gate.request(0, 2));
        calls.put("renew, refused", gate -> gate.renew(6));
        calls.put("renew, no ticket", gate -> gate.renew(8));
        calls.put("cheese, refused", gate -> gate.cheese(7));
        calls.put("cheese, no ticket", gate -> gate.cheese(8));
        calls.put("drop", gate -> gate.drop(8));
        calls.put("setPassword, no user", gate -> gate.setPassword(2, 7));
        calls.put("setPassword, no password", gate -> gate.setPassword(0, -1));
        calls.put("setClock, no user", gate -> gate.setClock(-1, 7));
        calls.put("setClock, no offset", gate -> gate.setClock(0, -10));
        calls.put("pass", gate -> gate.pass(1000));
        calls.put("writeTicket", gate -> gate.writeTicket(8));
        calls.put("outputByte", gate -> gate.outputByte(600));
        calls.put("save", gate -> gate.save(2));
        calls.put("restore, no slot", gate -> gate.restore(2));
        calls.put("restore, empty slot", gate -> gate.restore(0));
        calls.put("lifetimeOf", gate -> gate.lifetimeOf(3));
        calls.put("kindOf", gate -> gate.kindOf(8));
        calls.put("ticketAt", gate -> gate.ticketAt(8));
        calls.put("validAfter", gate -> gate.validAfter(1000));
        return calls;
    }

    private static void throwing() {
        Edge.of("Section 6", "A method that throws an exception changes nothing, unless its description says otherwise.", () -> {
            for (Map.Entry<String, Consumer<Gate>> call : refusedCalls().entrySet()) {
                Object answer = Check.answer(() -> {
                    call.getValue().accept(busy());
                    return 0;
                });
                Check.same(call.getKey() + " throws", answer instanceof String, true);
                Twin.unchanged(call.getKey(), StateEdges::busy, gate -> Check.answer(() -> {
                    call.getValue().accept(gate);
                    return 0;
                }));
            }
            Twin.unchanged("undo of none", Gate::new, gate -> Check.answer(gate::undo));
            Twin.unchanged("append to a full buffer", () -> {
                Gate gate = busy();
                Check.put(gate, " ".repeat(590));
                return gate;
            }, gate -> Check.answer(() -> gate.appendInput(0, 0, 0, 0, 0)));
        });
    }

    private static void firstException() {
        Edge.of("Section 6", "If several exceptions apply, the one that is listed first in the throws clause is thrown.", () -> {
            Gate gate = Check.loaded("gate 0 5;realm a 10 20 even;user u a 7 even;service s a 2;" + "login u 7;".repeat(24) + "pass 10;");
            Check.fails("loginRefusal, user and password", Check.INDEX, () -> gate.loginRefusal(1, 10000));
            Check.fails("login, all three", Check.INDEX, () -> gate.login(1, 10000, true));
            Check.fails("login, user and password", Check.INDEX, () -> gate.login(-1, -1, true));
            Check.fails("login, password and refusal", Check.ARGUMENT, () -> gate.login(0, 10000, true));
            Check.fails("referRefusal, ticket and realm", Check.ELEMENT, () -> gate.referRefusal(24, 1));
            Check.fails("refer, all three", Check.ELEMENT, () -> gate.refer(24, 1));
            Check.fails("refer, realm and refusal", Check.INDEX, () -> gate.refer(0, 1));
            Check.fails("requestRefusal, ticket and service", Check.ELEMENT, () -> gate.requestRefusal(-1, -1));
            Check.fails("request, all three", Check.ELEMENT, () -> gate.request(24, 1));
            Check.fails("request, service and refusal", Check.INDEX, () -> gate.request(0, 1));
            Check.fails("setPassword, user and password", Check.INDEX, () -> gate.setPassword(1, -1));
            Check.fails("setClock, user and offset", Check.INDEX, () -> gate.setClock(1, 10));
            Check.fails("restore, a slot that is none is no empty slot", Check.INDEX, () -> gate.restore(2));
            Check.fails("skew, user and realm", Check.INDEX, () -> gate.skew(1, 1));
        });
    }

    private static void questions() {
        Edge.of("Section 6", "Methods that ask a question change nothing.", () -> {
            Twin.unchanged("all questions", StateEdges::busy, Check::picture);
            Map<String, Consumer<Gate>> calls = new LinkedHashMap<>();
            calls.put("errorCode", Gate::errorCode);
            calls.put("errorPosition", Gate::errorPosition);
            calls.put("findName", Gate::findName);
            calls.put("loginRefusal", gate -> gate.loginRefusal(0, 11));
            calls.put("referRefusal", gate -> gate.referRefusal(0, 1));
            calls.put("requestRefusal", gate -> gate.requestRefusal(0, 1));
            calls.put("renewRefusal", gate -> gate.renewRefusal(0));
            calls.put("cheeseRefusal", gate -> gate.cheeseRefusal(2));
            calls.put("minutesUntilCheese", gate -> gate.minutesUntilCheese(7));
            calls.put("minutesUntilCheese without end", gate -> gate.minutesUntilCheese(0));
            calls.put("validAfter", gate -> gate.validAfter(999));
            calls.put("bestTicket", gate -> gate.bestTicket(1, 0));
            calls.put("distanceErrors", Gate::distanceErrors);
            calls.put("nextRealm", gate -> gate.nextRealm(0, 2));
            calls.put("outputByte", gate -> gate.outputByte(0));
            calls.forEach((name, call) -> Twin.unchanged(name, StateEdges::busy, call));
        });
    }

    /** The answer about a future minute has to be that of a gate for which these minutes have passed. */
    private static void future() {
        Edge.of("Section 6", "A question about the future assumes that only minutes pass.", () -> {
            for (int minutes : new int[] {1, 2, 3, 10, 22, 36, 38, 39, 40, 54, 55, 998, 999}) {
                Gate gate = busy();
                gate.pass(minutes);
                Check.same("valid after " + minutes, busy().validAfter(minutes), gate.validTickets());
            }
            for (int ticket = 0; ticket < 8; ticket++) {
                Check.same("cheese for " + ticket, busy().minutesUntilCheese(ticket), waited(busy(), ticket));
            }
            Gate gate = Check.loaded("gate 3 5;realm a 99 0 even;user u a 7 fast 3;service s a 9;login u 7;request 0 s;");
            for (int offset = 3; offset >= 0; offset--) {
                gate.setClock(0, offset);
                gate.cheese(1);
            }
            Check.same("each of three minutes meets a use", gate.minutesUntilCheese(1), 4);
            Check.same("as it comes", waited(gate, 1), 4);
        });
    }

    private static int waited(Gate gate, int ticket) {
        for (int minutes = 0; minutes <= 20; minutes++) {
            if (gate.cheeseRefusal(ticket) == 0) {
                return minutes;
            }
            gate.pass(1);
        }
        return TicketGate.NONE;
    }

    private static void start() {
        String sentence = "Before the first successful load the state is that of the text \"gate 2 5;realm alp 60 300 even;"
                + "realm bay 40 90 fast 2;"
                + "realm cob 30 20 slow 3;trust alp bay;trust bay cob;trust cob alp;user ann alp 11 slow 1;user ben bay 22 fast 4;"
                + "service brie bay 3;service goat alp 1;login ann 11 renewable;refer 0 bay;pass 5;request 0 goat;login ben 22;"
                + "request 3 brie;cheese 4;pass 1;\".";
        Edge.of("Section 6", sentence, () -> {
            String text = sentence.substring(sentence.indexOf('"') + 1, sentence.lastIndexOf('"'));
            String due = Check.picture(Check.loaded(text));
            Gate gate = new Gate();
            Check.same("at first", Check.picture(gate), due);
            Check.answer(() -> Check.load(gate, "gate 9 9;x"));
            Check.same("after a load that was not successful", Check.picture(gate), due);
            Check.load(gate, "gate 9 9;");
            Check.same("after a successful load", Check.picture(gate).equals(due), false);
            gate.undo();
            Check.same("after its undo", Check.picture(gate), due);
            Check.same("made by no remembered calls", remembered(gate), 0);
        });
        Edge.of("Section 6", "The constants: `NONE = -1`: No such value.", () -> Check.same("NONE", TicketGate.NONE, -1));
        Edge.of("Section 6", "The kinds of tickets.", () -> {
            Check.same("FOR_REALM", TicketGate.FOR_REALM, 0);
            Check.same("FOR_SERVICE", TicketGate.FOR_SERVICE, 1);
        });
    }
}
