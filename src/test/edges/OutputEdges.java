/** The promises 61 to 65: the output, the slots and undo. */
final class OutputEdges {
    private static final String HEAD = "gate 9 5;realm a 1 20 even;realm bcde 999 9999 even;trust a bcde;user u a 7 even;"
            + "user vwxy bcde 0 even;"
            + "service s a 9;service long bcde 99;";
    private static final String NO_SLOT = "Throws `IndexOutOfBoundsException` if the slot does not exist";

    private OutputEdges() {
    }

    static void run() {
        written();
        discarded();
        outputByte();
        save();
        saveBounds();
        restore();
        restoreBounds();
        undo();
        undoOfNone();
    }

    private static void written() {
        String sentence = "Writes a ticket into the output: its number, the byte :, the name of its owner, the byte @, the name "
                + "of its realm; for a ticket for "
                + "a service the byte / and the name of the service; then a space and its end, and the byte + if it is renewable.";
        Edge.of("Promise 61", sentence, () -> {
            Gate gate = Check.loaded(HEAD + "login u 7;login u 7 renewable;login vwxy 0;login vwxy 0 renewable;request 0 s;"
                    + "request 1 s;request 2 long;request 3 long;");
            String[] due = {"0:u@a 1", "1:u@a 1+", "2:vwxy@bcde 999", "3:vwxy@bcde 999+", "4:u@a/s 1", "5:u@a/s 1+", "6:vwxy@bcde/long 999",
                "7:vwxy@bcde/long 999+"};
            for (int t = 0; t < due.length; t++) {
                gate.writeTicket(t);
                Check.same("ticket " + t, Check.output(gate), due[t]);
            }
        });
        Edge.of("Promise 61", sentence, () -> {
            Gate gate = Check.loaded(HEAD);
            int[] numbers = {9, 10, 99, 100, 120};
            for (int number = 0, i = 0; i < numbers.length; number++) {
                gate.login(1, 0, true);
                if (number == numbers[i]) {
                    i++;
                    gate.writeTicket(number);
                    Check.same("number " + number, Check.output(gate.twin()), number + ":vwxy@bcde " + (999 + gate.time()) + "+");
                }
                gate.drop(number);
                gate.pass(999);
            }
        });
        Edge.of("Promise 61", "Returns the length of the output.", () -> {
            Gate gate = Check.loaded(HEAD + "login u 7;login vwxy 0 renewable;request 1 long;");
            Check.same("the shortest", gate.writeTicket(0), 7);
            Check.same("the longest", gate.writeTicket(2), 21);
            Gate late = Check.loaded(HEAD);
            for (int i = 0; i < 110; i++) {
                late.pass(999);
                late.login(1, 0, true);
                late.drop(i);
            }
            late.login(1, 0, true);
            late.request(110, 1);
            Check.same("of greater numbers", late.writeTicket(111), "111:vwxy@bcde/long 110889+".length());
        });
    }

    private static void discarded() {
        Edge.of("Promise 61", "The previous output is discarded.", () -> {
            Gate gate = Check.loaded(HEAD + "login u 7;login vwxy 0 renewable;request 1 long;");
            gate.writeTicket(2);
            gate.writeTicket(0);
            Check.same("a shorter one", Check.output(gate), "0:u@a 1");
            Check.fails("its length", Check.ELEMENT, () -> gate.outputByte(7));
            gate.writeTicket(0);
            Check.same("the same again", Check.output(gate), "0:u@a 1");
        });
        Edge.of("Promise 61", "The previous output is discarded.", () -> {
            Gate gate = Check.loaded(HEAD + "login u 7;");
            gate.writeTicket(0);
            Check.fails("no ticket", Check.ELEMENT, () -> gate.writeTicket(1));
            Check.same("a call that throws discards none", Check.output(gate), "0:u@a 1");
            gate.pass(1);
            gate.sweep();
            Check.same("nor does the end of its ticket", Check.output(gate), "0:u@a 1");
        });
    }

    private static Gate wrote() {
        Gate gate = Check.loaded(HEAD + "login vwxy 0 renewable;");
        gate.writeTicket(0);
        return gate;
    }

    private static void outputByte() {
        Edge.of("Promise 62", "- `position`: a position in the output, from 0", () -> {
            Check.same("the first", wrote().outputByte(0), (int) '0');
            Check.same("the last", wrote().outputByte(15), (int) '+');
        });
        Edge.of("Promise 62", "Returns the byte at this position.", () -> {
            String due = "0:vwxy@bcde 999+";
            for (int i = 0; i < due.length(); i++) {
                Check.same("at " + i, wrote().outputByte(i), (int) due.charAt(i));
            }
        });
        Edge.of("Promise 62", "Throws `NoSuchElementException` if the output has no such position", () -> {
            Bounds.counted(OutputEdges::wrote, 16, Check.ELEMENT, Gate::outputByte);
            Bounds.counted(Gate::new, 0, Check.ELEMENT, Gate::outputByte);
        });
    }

    private static void save() {
        Edge.of("Promise 63", "Saves a copy of the state in a slot.", () -> {
            for (int slot = 0; slot <= 1; slot++) {
                Gate gate = new Gate();
                gate.save(slot);
                gate.cheese(4);
                gate.drop(0);
                gate.setPassword(1, 7);
                gate.setClock(1, 0);
                gate.pass(9);
                gate.restore(slot);
                Check.same("slot " + slot, Check.picture(gate), Check.picture(new Gate()));
                int other = 1 - slot;
                Check.fails("slot " + other + " stays empty", Check.STATE, () -> gate.restore(other));
            }
        });
        Edge.of("Promise 63", "The previous content of the slot is discarded.", () -> {
            Gate gate = new Gate();
            gate.save(0);
            gate.save(1);
            gate.pass(1);
            gate.save(0);
            gate.pass(1);
            Check.same("the later one", gate.restore(0), 7);
            Check.same("the other slot's stays", gate.restore(1), 6);
        });
        Edge.of("Promise 63", "Returns the time.", () -> {
            Check.same("the least", Check.loaded("gate 0 0;").save(0), 0);
            Gate gate = new Gate();
            gate.pass(999);
            Check.same("later", gate.save(1), 1005);
        });
    }

    private static void saveBounds() {
        Edge.of("Promise 63", "- `slot`: 0 or 1", () -> {
            Gate gate = new Gate();
            Check.same("0", gate.save(0), 6);
            Check.same("1", gate.save(1), 6);
            Check.fails("2", Check.INDEX, () -> gate.save(2));
        });
        Edge.of("Promise 63", NO_SLOT, () -> Bounds.counted(Gate::new, 2, Check.INDEX, Gate::save));
        Edge.of("Promise 63", NO_SLOT, () -> Bounds.counted(OutputEdges::saved, 2, Check.INDEX, Gate::save));
    }

    private static Gate saved() {
        Gate gate = new Gate();
        gate.save(0);
        gate.pass(1);
        gate.save(1);
        gate.pass(1);
        return gate;
    }

    private static void restore() {
        Edge.of("Promise 64", "Replaces the state by the copy in a slot.", () -> {
            Gate gate = saved();
            Check.load(gate, HEAD + "login u 7;");
            gate.restore(1);
            Check.same("the state of another text", Check.find(gate, "alp") + Check.find(gate, "bcde"), TicketGate.NONE);
            Check.same("its tickets", gate.ticketCount(), 5);
            Check.same("its next number", gate.login(0, 11, false), 5);
        });
        Edge.of("Promise 64", "The slot keeps its content.", () -> {
            Gate gate = saved();
            for (int i = 0; i < 3; i++) {
                Check.same("again", gate.restore(0), 6);
                Check.same("the same state", Check.picture(gate), Check.picture(new Gate()));
                gate.cheese(4);
                gate.sweep();
                gate.drop(3);
            }
            gate.undo();
            Check.same("after an undo", gate.restore(1), 7);
        });
        Edge.of("Promise 64", "Returns the time afterwards.", () -> {
            Check.same("of slot 0", saved().restore(0), 6);
            Check.same("of slot 1", saved().restore(1), 7);
            Gate gate = saved();
            gate.restore(1);
            Check.same("as time answers", gate.time(), 7);
        });
    }

    private static void restoreBounds() {
        Edge.of("Promise 64", "- `slot`: 0 or 1", () -> {
            Check.same("0", saved().restore(0), 6);
            Check.same("1", saved().restore(1), 7);
            Check.fails("2", Check.INDEX, () -> saved().restore(2));
        });
        Edge.of("Promise 64", NO_SLOT, () -> Bounds.counted(OutputEdges::saved, 2, Check.INDEX, Gate::restore));
        Edge.of("Promise 64", "Throws `IllegalStateException` if the slot is empty", () -> {
            Twin.refuses("slot 0 of none", Check.STATE, Gate::new, gate -> gate.restore(0));
            Twin.refuses("slot 1 of none", Check.STATE, Gate::new, gate -> gate.restore(1));
            for (int full = 0; full <= 1; full++) {
                int slot = full;
                Twin.refuses("the other one than " + slot, Check.STATE, () -> {
                    Gate gate = new Gate();
                    gate.pass(1);
                    gate.save(slot);
                    gate.pass(1);
                    return gate;
                }, gate -> gate.restore(1 - slot));
            }
            Gate gate = new Gate();
            gate.save(0);
            Check.same("it is full after a save", gate.restore(0), 6);
        });
    }

    private static void undo() {
        Edge.of("Promise 65", "Undoes the latest remembered undoable call and removes it from the remembered calls.", () -> {
            Gate gate = new Gate();
            gate.pass(1);
            gate.pass(2);
            gate.undo();
            Check.same("the latest", gate.time(), 7);
            gate.pass(4);
            gate.undo();
            Check.same("a new one", gate.time(), 7);
            gate.undo();
            Check.same("the first", gate.time(), 6);
            gate.save(0);
            gate.pass(1);
            gate.restore(0);
            gate.undo();
            Check.same("a restore", gate.time(), 7);
        });
        Edge.of("Promise 65", "Returns the number of remembered calls that are left.", () -> {
            Gate gate = new Gate();
            for (int i = 0; i < 12; i++) {
                gate.pass(1);
            }
            for (int left = 7; left >= 0; left--) {
                Check.same("of the most", gate.undo(), left);
            }
            gate.pass(1);
            Check.same("of one", gate.undo(), 0);
        });
    }

    private static void undoOfNone() {
        Edge.of("Promise 65", "Throws `IllegalStateException` if no call is remembered", () -> {
            Twin.refuses("of a new object", Check.STATE, Gate::new, Gate::undo);
            Twin.refuses("of calls that are undone", Check.STATE, () -> {
                Gate gate = new Gate();
                for (int i = 0; i < 9; i++) {
                    gate.pass(1);
                }
                for (int i = 0; i < 8; i++) {
                    gate.undo();
                }
                return gate;
            }, Gate::undo);
            Twin.refuses("of calls that are not undoable", Check.STATE, () -> {
                Gate gate = new Gate();
                gate.save(0);
                gate.writeTicket(0);
                Check.put(gate, "gate 2 5;?");
                Check.answer(gate::load);
                return gate;
            }, Gate::undo);
        });
    }
}
