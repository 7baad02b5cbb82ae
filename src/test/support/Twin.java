import java.util.function.Consumer;
import java.util.function.Supplier;

/**
 * Whether a call has changed a gate, also in what only later calls show. Each look may change the gate that
 * it looks at, so each one gets a gate of its own, made by the same scene.
 */
final class Twin {
    private static final int MAX_INPUT = 600;
    private static final int[] PASSWORDS = {0, 1, 7, 11, 22, 9999};

    private Twin() {
    }

    /** The call has to throw this and to change nothing. */
    static void refuses(String what, Class<? extends RuntimeException> kind, Supplier<Gate> scene, Consumer<Gate> call) {
        Gate gate = scene.get();
        Check.fails(what, kind, () -> {
            call.accept(gate);
            return "no exception";
        });
        unchanged(what, scene, twin -> Check.answer(() -> {
            call.accept(twin);
            return "";
        }));
    }

    static void unchanged(String what, Supplier<Gate> scene, Consumer<Gate> call) {
        Check.same(what + " changes nothing", look(() -> {
            Gate gate = scene.get();
            call.accept(gate);
            return gate;
        }), look(scene));
    }

    static String look(Supplier<Gate> scene) {
        return Check.picture(scene.get()) + outside(scene) + past(scene.get()) + slots(scene.get()) + future(scene.get());
    }

    private static String outside(Supplier<Gate> scene) {
        Gate gate = scene.get();
        String text = "\noutside " + gate.errorCode() + " " + gate.errorPosition() + " " + Check.output(gate) + " "
                + gate.findName() + " " + inputLength(gate) + " " + Check.answer(gate::load);
        return text + " " + gate.errorCode() + " " + gate.errorPosition() + Check.picture(gate);
    }

    /** The greatest length to which the input of a twin can be cut. */
    static int inputLength(Gate gate) {
        int least = 0;
        int most = MAX_INPUT;
        while (least < most) {
            int length = (least + most + 1) / 2;
            if (Check.answer(() -> gate.twin().truncateInput(length)) instanceof Integer) {
                least = length;
            } else {
                most = length - 1;
            }
        }
        return least;
    }

    private static String past(Gate gate) {
        StringBuilder text = new StringBuilder();
        for (Object left = Check.answer(gate::undo); left instanceof Integer; left = Check.answer(gate::undo)) {
            text.append("\nundone ").append(left).append(Check.picture(gate));
        }
        return text.toString();
    }

    private static String slots(Gate gate) {
        return "\nslot 0 " + Check.answer(() -> gate.restore(0)) + Check.picture(gate)
                + "\nslot 1 " + Check.answer(() -> gate.restore(1)) + Check.picture(gate);
    }

    private static String future(Gate gate) {
        StringBuilder text = new StringBuilder("\nfuture");
        for (int round = 0; round < 2; round++) {
            for (int i = 0; i < gate.ticketCount(); i++) {
                int ticket = gate.ticketAt(i);
                text.append(' ').append(Check.answer(() -> gate.cheese(ticket))).append(Check.answer(() -> gate.renew(ticket)));
            }
            for (int user = 0; user < gate.userCount(); user++) {
                text.append(' ').append(logins(gate, user));
            }
            gate.pass(1);
            text.append(Check.picture(gate));
        }
        return text.toString();
    }

    private static String logins(Gate gate, int user) {
        StringBuilder text = new StringBuilder();
        for (int password : PASSWORDS) {
            text.append(Check.answer(() -> gate.login(user, password, true))).append(' ');
        }
        return text.toString();
    }
}
