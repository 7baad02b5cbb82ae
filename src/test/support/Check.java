import java.util.NoSuchElementException;

/** What the tests share: comparing answers, filling the input, picturing all that can be asked. */
final class Check {
    static final Class<IllegalStateException> STATE = IllegalStateException.class;
    static final Class<IllegalArgumentException> ARGUMENT = IllegalArgumentException.class;
    static final Class<IndexOutOfBoundsException> INDEX = IndexOutOfBoundsException.class;
    static final Class<NoSuchElementException> ELEMENT = NoSuchElementException.class;

    interface Call {
        Object run();
    }

    private static int wrong = 0;
    private static String topic = "";

    private Check() {
    }

    /** What the next answers are about; it is printed before those that are not as due. */
    static void topic(String text) {
        topic = text;
    }

    static void same(String what, Object got, Object want) {
        if (!got.equals(want)) {
            wrong++;
            System.out.println(topic + what + ": answered " + got + ", due is " + want);
        }
    }

    static void fails(String what, Class<? extends RuntimeException> kind, Call call) {
        same(what, answer(call), kind.getSimpleName());
    }

    /** The call has to throw this and to leave all that can be asked of the gate as it was. */
    static void refuses(String what, Class<? extends RuntimeException> kind, TicketGate gate, Call call) {
        String before = picture(gate);
        fails(what, kind, call);
        same(what + " changes nothing", picture(gate), before);
    }

    static Object answer(Call call) {
        try {
            return call.run();
        } catch (RuntimeException e) {
            return e.getClass().getSimpleName();
        }
    }

    static void end() {
        System.out.println(wrong == 0 ? "all answers are as due" : wrong + " answers are not as due");
        if (wrong != 0) {
            System.exit(1);
        }
    }

    static void put(TicketGate gate, String text) {
        int length = gate.truncateInput(0);
        for (int at = 0; at < text.length(); at += 20) {
            int[] four = new int[5];
            for (int i = 0; i < 20; i++) {
                int sign = at + i < text.length() ? text.charAt(at + i) : 0;
                four[i / 4] = four[i / 4] << 8 | sign;
            }
            length = gate.appendInput(four[0], four[1], four[2], four[3], four[4]);
        }
        gate.truncateInput(Math.min(length, text.length()));
    }

    static int find(TicketGate gate, String name) {
        put(gate, name);
        int found = gate.findName();
        gate.truncateInput(0);
        return found;
    }

    static int load(TicketGate gate, String text) {
        put(gate, text);
        return gate.load();
    }

    static TicketGate loaded(String text) {
        TicketGate gate = new TicketGate();
        load(gate, text);
        return gate;
    }

    /** Loads a text that has an error, which must have this code and this position. */
    static void error(String text, int code, int position) {
        TicketGate gate = new TicketGate();
        String before = picture(gate);
        put(gate, text);
        fails("load " + text, ARGUMENT, () -> gate.load());
        same("code of " + text, gate.errorCode(), code);
        same("position in " + text, gate.errorPosition(), position);
        same("input after " + text, answer(() -> gate.truncateInput(1)), "IllegalArgumentException");
        same("state after " + text, picture(gate), before);
        same("undo after " + text, answer(() -> gate.undo()), "IllegalStateException");
    }

    static String output(TicketGate gate) {
        StringBuilder text = new StringBuilder();
        for (int i = 0; answer(lambdaByte(gate, i)) instanceof Integer; i++) {
            text.append((char) gate.outputByte(i));
        }
        return text.toString();
    }

    private static Call lambdaByte(TicketGate gate, int position) {
        return () -> gate.outputByte(position);
    }

    /** All that can be asked of the state, as one text. */
    static String picture(TicketGate gate) {
        StringBuilder text = new StringBuilder();
        text.append("time ").append(gate.time()).append(" seed ").append(gate.seed());
        text.append(" uses ").append(gate.useCount()).append(" valid ").append(gate.validTickets());
        text.append(" errors ").append(gate.cheeseDifference()).append(gate.lifeErrors()).append(gate.distanceErrors());
        text.append(" share ").append(gate.validShare()).append(" life ").append(gate.averageLife());
        for (int a = 0; a < gate.realmCount(); a++) {
            text.append("\nrealm ").append(gate.lifetimeOf(a)).append(' ').append(gate.clockOf(a));
            for (int b = 0; b < gate.realmCount(); b++) {
                text.append(' ').append(gate.trusts(a, b)).append(gate.distance(a, b)).append(gate.nextRealm(a, b));
            }
        }
        for (int a = 0; a < gate.userCount(); a++) {
            text.append("\nuser ").append(gate.homeOf(a)).append(' ').append(gate.cheesesOf(a)).append(password(gate, a));
            for (int b = 0; b < gate.realmCount(); b++) {
                text.append(' ').append(gate.skew(a, b));
            }
            for (int b = 0; b < gate.serviceCount(); b++) {
                text.append(" best ").append(gate.bestTicket(a, b));
            }
        }
        for (int a = 0; a < gate.serviceCount(); a++) {
            text.append("\nservice ").append(gate.realmOfService(a)).append(' ').append(gate.cheesesLeft(a));
        }
        for (int i = 0; i < gate.ticketCount(); i++) {
            ticket(gate, gate.ticketAt(i), text);
        }
        return text.toString();
    }

    /** Tries the passwords that the tests use: a gate never tells one. */
    private static String password(TicketGate gate, int user) {
        int[] tried = {0, 1, 2, 7, 11, 22, 77, 99, 9999};
        StringBuilder text = new StringBuilder(" login ");
        for (int word : tried) {
            text.append(gate.loginRefusal(user, word));
        }
        return text.toString();
    }

    private static void ticket(TicketGate gate, int t, StringBuilder text) {
        text.append("\nticket ").append(t).append(" kind ").append(gate.kindOf(t)).append(" owner ").append(gate.ownerOf(t));
        text.append(" in ").append(gate.realmOf(t)).append(" for ").append(gate.serviceOf(t));
        text.append(" life ").append(gate.startOf(t)).append(' ').append(gate.endOf(t)).append(' ').append(gate.lastEndOf(t));
        text.append(" key ").append(gate.keyOf(t)).append(gate.isRenewable(t)).append(gate.isValid(t)).append(gate.minutesLeft(t));
        text.append(" refused ").append(gate.renewRefusal(t)).append(gate.cheeseRefusal(t));
        text.append(" wait ").append(gate.minutesUntilCheese(t));
        for (int a = 0; a < gate.realmCount(); a++) {
            text.append(' ').append(gate.referRefusal(t, a));
        }
        for (int a = 0; a < gate.serviceCount(); a++) {
            text.append(' ').append(gate.requestRefusal(t, a));
        }
    }
}
