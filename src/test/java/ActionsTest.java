/** The promises 24 and 56 to 62: dropping, sweeping, settings, passing and written tickets. */
public final class ActionsTest {
    private static final String HEAD = "gate 2 1;realm a 30 90 even;realm bcde 5 5 even;trust a bcde;user u a 7 even;"
            + "user vwxy a 0 even;service s a 9;service long bcde 1;";

    public static void main(String[] args) {
        drop();
        sweep();
        setPassword();
        setClock();
        pass();
        write();
        Check.end();
    }

    private static String numbers(Gate gate) {
        StringBuilder text = new StringBuilder();
        for (int i = 0; i < gate.ticketCount(); i++) {
            text.append(gate.ticketAt(i)).append(' ');
        }
        Check.fails("no index " + gate.ticketCount(), Check.INDEX, () -> gate.ticketAt(gate.ticketCount()));
        return text.toString();
    }

    private static void drop() {
        Gate gate = Check.loaded(HEAD + "login u 7;request 0 s;login vwxy 0;refer 2 bcde;");
        String first = Check.picture(gate);
        Check.same("1", gate.drop(1), 3);
        Check.same("numbers", numbers(gate), "0 2 3 ");
        Check.same("others stay", gate.realmOf(3), 1);
        Check.refuses("1 again", Check.ELEMENT, gate, () -> gate.drop(1));
        Check.refuses("4", Check.ELEMENT, gate, () -> gate.drop(4));
        Check.refuses("-1", Check.ELEMENT, gate, () -> gate.drop(-1));
        Check.fails("gone", Check.ELEMENT, () -> gate.kindOf(1));
        Check.same("3", gate.drop(3), 2);
        Check.same("0", gate.drop(0), 1);
        Check.same("2", gate.drop(2), 0);
        Check.same("numbers", numbers(gate), "");
        Check.same("the next number", gate.login(0, 7, false), 4);
        Check.same("a dropped one that is not valid", gate.pass(30), 1);
        Check.same("4", gate.drop(4), 0);
        for (int i = 0; i < 7; i++) {
            gate.undo();
        }
        Check.same("undone", Check.picture(gate), first);
    }

    private static void sweep() {
        Gate gate = Check.loaded(HEAD + "login u 7;refer 0 bcde;pass 4;login u 7 renewable;refer 2 bcde;");
        Check.same("none", gate.sweep(), 0);
        gate.pass(1);
        Check.same("one that has just ended", gate.sweep(), 1);
        Check.same("numbers", numbers(gate), "0 2 3 ");
        gate.pass(4);
        gate.login(0, 7, false);
        gate.pass(21);
        Check.same("some between others", gate.sweep(), 2);
        Check.same("numbers", numbers(gate), "2 4 ");
        gate.pass(999);
        Check.same("all", gate.sweep(), 2);
        Check.same("again", gate.sweep(), 0);
        Check.same("numbers", numbers(gate), "");
    }

    private static void setPassword() {
        Gate gate = Check.loaded(HEAD + "login u 7;");
        Check.same("former", gate.setPassword(0, 9999), 7);
        Check.same("former", gate.setPassword(0, 0), 9999);
        Check.same("former of the other", gate.setPassword(1, 5), 0);
        Check.same("the old one", gate.loginRefusal(0, 7), 1);
        Check.same("the new one", gate.loginRefusal(0, 0), 0);
        Check.same("tickets stay", numbers(gate), "0 ");
        Check.same("and are valid", gate.requestRefusal(0, 0), 0);
        for (int bad : new int[] {-1, 10000, Integer.MAX_VALUE, Integer.MIN_VALUE}) {
            Check.refuses("password " + bad, Check.ARGUMENT, gate, () -> gate.setPassword(0, bad));
            Check.refuses("user and password " + bad, Check.INDEX, gate, () -> gate.setPassword(bad, bad));
        }
        Check.refuses("user 2", Check.INDEX, gate, () -> gate.setPassword(2, 10000));
    }

    private static void setClock() {
        Gate gate = Check.loaded(HEAD);
        Check.same("former", gate.setClock(0, 9), 0);
        Check.same("skew", gate.skew(0, 0), 9);
        Check.same("former", gate.setClock(0, -9), 9);
        Check.same("skew", gate.skew(0, 0), 9);
        Check.same("former", gate.setClock(0, 2), -9);
        Check.same("skew", gate.skew(0, 0), 2);
        Check.same("the other", gate.skew(1, 0), 0);
        for (int bad : new int[] {-10, 10, Integer.MAX_VALUE, Integer.MIN_VALUE}) {
            Check.refuses("offset " + bad, Check.ARGUMENT, gate, () -> gate.setClock(0, bad));
            Check.refuses("user and offset " + bad, Check.INDEX, gate, () -> gate.setClock(bad, bad));
        }
        Check.refuses("user 2", Check.INDEX, gate, () -> gate.setClock(2, 10));
    }

    private static void pass() {
        Gate gate = Check.loaded(HEAD + "login u 7;refer 0 bcde;request 0 s;pass 1;cheese 2;");
        for (int bad : new int[] {0, -1, 1000, Integer.MAX_VALUE, Integer.MIN_VALUE}) {
            Check.refuses("pass " + bad, Check.ARGUMENT, gate, () -> gate.pass(bad));
        }
        Check.same("3", gate.pass(3), 0);
        Check.same("time", gate.time(), 4);
        Check.same("uses", gate.useCount(), 0);
        Check.same("to 5", gate.pass(1), 1);
        Check.same("to 29", gate.pass(24), 0);
        Check.same("to 30", gate.pass(1), 2);
        Check.same("999", gate.pass(999), 0);
        Check.same("time", gate.time(), 1029);
        Check.same("clock", gate.clockOf(0), 1029);
        Check.same("tickets stay", gate.ticketCount(), 3);
    }

    private static void write() {
        Gate gate = Check.loaded(HEAD + "login u 7;login vwxy 0 renewable;refer 1 bcde;request 2 long;request 0 s;");
        String[] due = {"0:u@a 30", "1:vwxy@a 30+", "2:vwxy@bcde 5+", "3:vwxy@bcde/long 5+", "4:u@a/s 30"};
        for (int t = 0; t < due.length; t++) {
            Check.same("length of " + t, gate.writeTicket(t), due[t].length());
            Check.same("output of " + t, Check.output(gate.twin()), due[t]);
        }
        Check.same("a longer one before a shorter one", gate.writeTicket(3), due[3].length());
        Check.same("the shorter one", gate.writeTicket(0), due[0].length());
        Check.fails("nothing is left of the longer one", Check.ELEMENT, () -> gate.outputByte(due[0].length()));
        for (int bad : new int[] {-1, 5, Integer.MAX_VALUE, Integer.MIN_VALUE}) {
            Check.refuses("write " + bad, Check.ELEMENT, gate, () -> gate.writeTicket(bad));
        }
        Check.same("the output stays", Check.output(gate.twin()), due[0]);
        for (int bad : new int[] {-1, 8, Integer.MAX_VALUE, Integer.MIN_VALUE}) {
            Check.fails("byte " + bad, Check.ELEMENT, () -> gate.outputByte(bad));
        }
        Check.same("first byte", gate.outputByte(0), (int) '0');
        gate.save(0);
        gate.drop(0);
        Check.same("the output is not part of the state", Check.output(gate.twin()), due[0]);
        gate.restore(0);
        gate.undo();
        Check.same("nor undone", Check.output(gate.twin()), due[0]);
        for (int i = 0; i < 100; i++) {
            gate.pass(999);
            gate.sweep();
            gate.login(0, 7, true);
        }
        Check.same("long numbers", gate.writeTicket(104), "104:u@a 99930+".length());
        Check.same("long numbers", Check.output(gate.twin()), "104:u@a 99930+");
        Check.load(gate, HEAD);
        Check.same("load leaves the output", Check.output(gate.twin()), "104:u@a 99930+");
    }
}
