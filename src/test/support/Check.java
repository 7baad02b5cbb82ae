import java.util.NoSuchElementException;

/** What the tests share: comparing answers, filling the input, picturing all that can be asked. */
final class Check {
    static final Class<IllegalStateException> STATE = IllegalStateException.class;
    static final Class<IllegalArgumentException> ARGUMENT = IllegalArgumentException.class;
    static final Class<IndexOutOfBoundsException> INDEX = IndexOutOfBoundsException.class;
    static final Class<NoSuchElementException> ELEMENT = NoSuchElementException.class;

    interface Call {
        Object run();
    }

    private static int wrong = 0;
    private static String topic = "";

    private Check() {
    }

    /** What the next answers are about; it is printed before those that are not as due. */
    static void topic(String text) {
        topic = text;
    }

    static void same(String what, Object got, Object want) {
        if (!got.equals(want)) {
            wrong++;
            System.out.println(topic + what + ": answered " + got + ", due is " + want);
        }
    }

    static void fails(String what, Class<? extends RuntimeException> kind, Call call) {
        same(what, answer(call), kind.getSimpleName());
    }

    /** The call has to throw this and to leave all that can be asked of the gate as it was. */
    static void refuses(String what, Class<? extends RuntimeException> kind, Gate gate, Call call) {
        String before = picture(gate);
        fails(what, kind, call);
        same(what + " changes nothing", picture(gate), before);
    }

    static Object answer(Call call) {
        try {
            return call.run();
        } catch (RuntimeException e) {
            return e.getClass().getSimpleName();
        }
    }

    static void end() {
        System.out.println(wrong == 0 ? "all answers are as due" : wrong + " answers are not as due");
        if (wrong != 0) {
            System.exit(1);
        }
    }

    static void put(Gate gate, String text) {
        int length = gate.truncateInput(0);
        for (int at = 0; at < text.length(); at += 20) {
            int[] four = new int[5];
            for (int i = 0; i < 20; i++) {
                int sign = at + i < text.length() ? text.charAt(at + i) : 0;
                four[i / 4] = four[i / 4] << 8 | sign;
            }
            length = gate.appendInput(four[0], four[1], four[2], four[3], four[4]);
        }
        gate.truncateInput(Math.min(length, text.length()));
    }

    static int find(Gate gate, String name) {
        put(gate, name);
        int found = gate.findName();
        gate.truncateInput(0);
        return found;
    }

    static int load(Gate gate, String text) {
        put(gate, text);
        return gate.load();
    }

    static Gate loaded(String text) {
        Gate gate = new Gate();
        load(gate, text);
        return gate;
    }

    /** Loads a text that has an error, which must have this code and this position. */
    static void error(String text, int code, int position) {
        Gate gate = new Gate();
        String before = picture(gate);
        put(gate, text);
        fails("load " + text, ARGUMENT, () -> gate.load());
        same("code of " + text, gate.errorCode(), code);
        same("position in " + text, gate.errorPosition(), position);
        same("input after " + text, answer(() -> gate.truncateInput(1)), "IllegalArgumentException");
        same("state after " + text, picture(gate), before);
        same("undo after " + text, answer(() -> gate.undo()), "IllegalStateException");
    }

    static String output(Gate gate) {
        StringBuilder text = new StringBuilder();
        for (int i = 0; answer(lambdaByte(gate, i)) instanceof Integer; i++) {
            text.append((char) gate.outputByte(i));
        }
        return text.toString();
    }

    private static Call lambdaByte(Gate gate, int position) {
        return () -> gate.outputByte(position);
    }

    static String picture(Gate gate) {
        return new Picture(gate).text();
    }
}
