/** The promises 2, 3 and 12: the input buffer and the names found in it. */
public final class InputTest {
    public static void main(String[] args) {
        append();
        truncate();
        findName();
        Check.end();
    }

    private static void append() {
        Gate gate = new Gate();
        for (int i = 1; i <= 30; i++) {
            Check.same("append " + i, gate.appendInput(0x20202020, 0x20202020, 0x20202020, 0x20202020, 0x20202020), 20 * i);
        }
        Check.refuses("append beyond 600", Check.STATE, gate, () -> gate.appendInput(0, 0, 0, 0, 0));
        Check.same("length stays", gate.truncateInput(600), 600);
        Check.same("a byte less", gate.truncateInput(581), 581);
        Check.fails("append to 601", Check.STATE, () -> gate.appendInput(0, 0, 0, 0, 0));
        Check.same("a byte more", gate.truncateInput(580), 580);
        Check.same("append to 600", gate.appendInput(0, 0, 0, 0, 0), 600);
        // gate|_2 5|;rea|lm a| 1 1 — then the rest
        Gate order = new Gate();
        order.appendInput(0x67617465, 0x20322035, 0x3b726561, 0x6c6d2061, 0x20312031);
        order.appendInput(0x20657665, 0x6e3b2020, 0x20202020, 0x20202020, 0x20202020);
        Check.same("bytes in their order", order.load(), 0);
        Check.same("the realm", Check.find(order, "a"), 0);
        // a byte above 127 counts as 128 to 255, and is a token of its own
        Gate high = new Gate();
        high.appendInput(0x67617465, 0x20302030, 0x3bffffff, 0xffffffff, 0x80808080);
        Check.fails("bytes above 127", Check.ARGUMENT, () -> high.load());
        Check.same("code", high.errorCode(), 1);
        Check.same("position", high.errorPosition(), 9);
    }

    private static void truncate() {
        Gate gate = new Gate();
        Check.same("to 0", gate.truncateInput(0), 0);
        Check.fails("-1", Check.ARGUMENT, () -> gate.truncateInput(-1));
        gate.appendInput(1, 2, 3, 4, 5);
        Check.fails("21 of 20", Check.ARGUMENT, () -> gate.truncateInput(21));
        Check.fails("least", Check.ARGUMENT, () -> gate.truncateInput(Integer.MIN_VALUE));
        Check.fails("most", Check.ARGUMENT, () -> gate.truncateInput(Integer.MAX_VALUE));
        Check.same("20 of 20", gate.truncateInput(20), 20);
        Check.same("7 of 20", gate.truncateInput(7), 7);
        Check.fails("8 of 7", Check.ARGUMENT, () -> gate.truncateInput(8));
        Check.same("append after it", gate.appendInput(0, 0, 0, 0, 0), 27);
    }

    private static void findName() {
        Gate gate = new Gate();
        Check.same("empty", Check.find(gate, ""), TicketGate.NONE);
        Check.same("bay", Check.find(gate, "bay"), 1);
        for (String none : new String[] {"ba", "bayy", "bay ", " bay", "bay\0", "\0bay", "BAY", "b y", "bay;", "briea",
            "briebrie", "bri", "rie", "gate", "1", "bay\nalp", "bay" + (char) 225, "alpann"}) {
            Check.same("none: " + none, Check.find(gate, none), TicketGate.NONE);
        }
        Check.put(gate, "goat");
        Check.same("goat", gate.findName(), 201);
        Check.same("goat again", gate.findName(), 201);
        Check.same("the buffer stays", gate.truncateInput(4), 4);
        Gate short1 = Check.loaded("gate 0 0;realm a 1 0 even;realm aa 1 0 even;realm aaa 1 0 even;realm aaaa 1 0 even;"
                + "user z a 0 even;user az a 0 even;service za a 0;service zzzz a 0;");
        String[] names = {"a", "aa", "aaa", "aaaa", "z", "az", "za", "zzzz"};
        int[] codes = {0, 1, 2, 3, 100, 101, 200, 201};
        for (int i = 0; i < names.length; i++) {
            Check.same(names[i], Check.find(short1, names[i]), codes[i]);
        }
        Check.same("alp is gone", Check.find(short1, "alp"), TicketGate.NONE);
    }
}
