import java.util.ArrayList;
import java.util.List;

/** The promises 63 to 65 and the section 6: slots, undo, and what is remembered. */
public final class HistoryTest {
    private static final String TEXT = "gate 2 1;realm a 30 90 even;user u a 7 even;service s a 9;login u 7 renewable;";

    public static void main(String[] args) {
        slots();
        undoOfEach();
        notRemembered();
        latestEight();
        outside();
        Check.end();
    }

    private static void slots() {
        Gate gate = new Gate();
        for (int bad : new int[] {-1, 2, Integer.MAX_VALUE, Integer.MIN_VALUE}) {
            Check.refuses("save " + bad, Check.INDEX, gate, () -> gate.save(bad));
            Check.refuses("restore " + bad, Check.INDEX, gate, () -> gate.restore(bad));
        }
        Check.refuses("restore of an empty slot", Check.STATE, gate, () -> gate.restore(0));
        String first = Check.picture(gate);
        Check.same("save", gate.save(0), 6);
        Check.refuses("the other slot is empty", Check.STATE, gate, () -> gate.restore(1));
        gate.cheese(4);
        gate.setPassword(0, 77);
        gate.pass(20);
        String second = Check.picture(gate);
        Check.same("save", gate.save(1), 26);
        Check.same("restore", gate.restore(0), 6);
        Check.same("first", Check.picture(gate), first);
        gate.drop(2);
        gate.pass(1);
        Check.same("restore again", gate.restore(0), 6);
        Check.same("the slot keeps its content", Check.picture(gate), first);
        Check.same("restore the other", gate.restore(1), 26);
        Check.same("second", Check.picture(gate), second);
        Check.same("save over it", gate.save(0), 26);
        gate.pass(9);
        gate.restore(0);
        Check.same("the former content is discarded", Check.picture(gate), second);
        gate.restore(1);
        Check.load(gate, TEXT);
        String third = Check.picture(gate);
        gate.save(1);
        gate.restore(0);
        Check.same("load leaves slots", Check.picture(gate), second);
        gate.restore(1);
        Check.same("number goes on", gate.login(0, 7, false), 1);
        gate.restore(1);
        Check.same("third", Check.picture(gate), third);
        Check.same("numbers are part of the state", gate.login(0, 7, false), 1);
    }

    private static void undoOfEach() {
        Gate gate = new Gate();
        gate.save(0);
        List<Check.Call> calls = List.of(() -> gate.login(0, 11, true), () -> gate.refer(0, 1), () -> gate.request(0, 1),
                () -> gate.renew(0), () -> gate.cheese(4), () -> gate.drop(1), () -> gate.sweep(),
                () -> gate.setPassword(0, 77), () -> gate.setPassword(0, 11), () -> gate.setClock(0, 0),
                () -> gate.setClock(0, -1), () -> gate.pass(1), () -> gate.pass(999), () -> gate.restore(0),
                () -> Check.load(gate, TEXT));
        for (int i = 0; i < calls.size(); i++) {
            String before = Check.picture(gate);
            Check.same("call " + i, Check.answer(calls.get(i)) instanceof Integer, true);
            Check.same("undo of " + i, gate.undo(), 0);
            Check.same("state before " + i, Check.picture(gate), before);
            Check.refuses("nothing left after " + i, Check.STATE, gate, () -> gate.undo());
        }
    }

    private static void notRemembered() {
        Gate gate = new Gate();
        gate.pass(1);
        Check.picture(gate);
        gate.save(0);
        gate.writeTicket(0);
        gate.appendInput(0, 0, 0, 0, 0);
        gate.truncateInput(3);
        gate.findName();
        for (Check.Call call : List.<Check.Call>of(() -> gate.load(), () -> gate.login(0, 12, true), () -> gate.login(9, 12, true),
                () -> gate.login(0, -1, true), () -> gate.refer(0, 2), () -> gate.request(0, 0), () -> gate.renew(3),
                () -> gate.cheese(0), () -> gate.drop(9), () -> gate.setPassword(0, -1), () -> gate.setPassword(2, 1),
                () -> gate.setClock(0, 10), () -> gate.pass(0), () -> gate.restore(1), () -> gate.restore(2),
                () -> gate.writeTicket(9), () -> gate.save(2), () -> gate.truncateInput(-1))) {
            Check.same("it throws", Check.answer(call) instanceof String, true);
        }
        Check.same("one is remembered", gate.undo(), 0);
        Check.same("the start", Check.picture(gate), Check.picture(new Gate()));
    }

    private static void latestEight() {
        Gate gate = new Gate();
        List<String> pictures = new ArrayList<>();
        for (int i = 0; i < 21; i++) {
            pictures.add(Check.picture(gate));
            gate.pass(1);
        }
        for (int left = 7; left >= 0; left--) {
            Check.same("left", gate.undo(), left);
            Check.same("state " + left, Check.picture(gate), pictures.get(13 + left));
        }
        Check.refuses("a ninth", Check.STATE, gate, () -> gate.undo());
        for (int round = 0; round < 3; round++) {
            for (int i = 0; i < 5; i++) {
                gate.pass(1);
            }
            for (int i = 0; i < 3; i++) {
                gate.undo();
            }
        }
        Check.same("time", gate.time(), 6 + 13 + 6);
        for (int left = 4; left >= 0; left--) {
            Check.same("left", gate.undo(), left);
            Check.same("time", gate.time(), 20 + left);
        }
        gate.setPassword(0, 1);
        for (int i = 0; i < 7; i++) {
            gate.sweep();
        }
        Check.load(gate, TEXT);
        for (int left = 7; left >= 0; left--) {
            Check.same("left", gate.undo(), left);
        }
        Check.same("the ninth is not undone", gate.loginRefusal(0, 1), 0);
    }

    /** The input, the error, the output and the slots are outside of the state. */
    private static void outside() {
        Gate gate = new Gate();
        gate.pass(5);
        Check.put(gate, "gate 2 5;x");
        Check.fails("an error", Check.ARGUMENT, () -> gate.load());
        Check.put(gate, "alp");
        gate.save(1);
        gate.undo();
        Check.same("the error stays", gate.errorCode(), 1);
        Check.same("its position stays", gate.errorPosition(), 9);
        Check.same("the input stays", gate.findName(), 0);
        Check.same("the slot stays", gate.restore(1), 11);
        Check.same("the error stays", gate.errorCode(), 1);
        Check.same("the input stays", gate.findName(), 0);
        Check.load(gate, TEXT);
        gate.undo();
        Check.same("no error", gate.errorCode(), 0);
        Check.same("the slot stays", gate.restore(1), 11);
    }
}
