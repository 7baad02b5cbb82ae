import java.util.function.Consumer;
import java.util.function.Supplier;

/**
 * Whether a call has changed a gate, also in what only later calls show. Each look may change the gate that
 * it looks at, so each one gets a gate of its own, made by the same scene.
 */
final class Twin {
    private static final int MAX_INPUT = 600;
    private static final int[] PASSWORDS = {0, 1, 7, 11, 22, 9999};

    private Twin() {
    }

    /** The call has to throw this and to change nothing. */
    static void refuses(String what, Class<? extends RuntimeException> kind, Supplier<TicketGate> scene, Consumer<TicketGate> call) {
        TicketGate gate = scene.get();
        Check.fails(what, kind, () -> {
            call.accept(gate);
            return "no exception";
        });
        unchanged(what, scene, twin -> Check.answer(() -> {
            call.accept(twin);
            return "";
        }));
    }

    static void unchanged(String what, Supplier<TicketGate> scene, Consumer<TicketGate> call) {
        Check.same(what + " changes nothing", look(() -> {
            TicketGate gate = scene.get();
            call.accept(gate);
            return gate;
        }), look(scene));
    }

    static String look(Supplier<TicketGate> scene) {
        return Check.picture(scene.get()) + outside(scene.get()) + past(scene.get()) + slots(scene.get()) + future(scene.get());
    }

    private static String outside(TicketGate gate) {
        StringBuilder text = new StringBuilder("\noutside ");
        text.append(gate.errorCode()).append(' ').append(gate.errorPosition()).append(' ').append(Check.output(gate));
        text.append(' ').append(gate.findName()).append(' ').append(inputLength(gate)).append(' ').append(Check.answer(gate::load));
        return text.append(gate.errorCode()).append(' ').append(gate.errorPosition()).append(Check.picture(gate)).toString();
    }

    /** The greatest length to which the input can be cut; cutting to it changes nothing. */
    static int inputLength(TicketGate gate) {
        int length = MAX_INPUT;
        while (length > 0 && Check.answer(cut(gate, length)) instanceof String) {
            length--;
        }
        return length;
    }

    private static Check.Call cut(TicketGate gate, int length) {
        return () -> gate.truncateInput(length);
    }

    private static String past(TicketGate gate) {
        StringBuilder text = new StringBuilder();
        for (Object left = Check.answer(gate::undo); left instanceof Integer; left = Check.answer(gate::undo)) {
            text.append("\nundone ").append(left).append(Check.picture(gate));
        }
        return text.toString();
    }

    private static String slots(TicketGate gate) {
        return "\nslot 0 " + Check.answer(() -> gate.restore(0)) + Check.picture(gate)
                + "\nslot 1 " + Check.answer(() -> gate.restore(1)) + Check.picture(gate);
    }

    private static String future(TicketGate gate) {
        StringBuilder text = new StringBuilder("\nfuture");
        for (int round = 0; round < 3; round++) {
            for (int i = 0; i < gate.ticketCount(); i++) {
                int ticket = gate.ticketAt(i);
                text.append(' ').append(Check.answer(() -> gate.cheese(ticket))).append(Check.answer(() -> gate.renew(ticket)));
            }
            for (int user = 0; user < gate.userCount(); user++) {
                text.append(' ').append(logins(gate, user));
            }
            gate.pass(1);
            text.append(Check.picture(gate));
        }
        return text.toString();
    }

    private static String logins(TicketGate gate, int user) {
        StringBuilder text = new StringBuilder();
        for (int password : PASSWORDS) {
            text.append(Check.answer(() -> gate.login(user, password, true))).append(' ');
        }
        return text.toString();
    }
}
