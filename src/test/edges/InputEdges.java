/** The promises 1 to 6 and 12: the new object, the input buffer, load and its error, the names. */
final class InputEdges {
    private static final String HEAD = "gate 2 5;realm a 10 20 even;user u a 7 even;service s a 2;";
    private static final String START = "gate 2 5;realm alp 60 300 even;realm bay 40 90 fast 2;realm cob 30 20 slow 3;trust alp bay;"
            + "trust bay cob;trust cob alp;user ann alp 11 slow 1;user ben bay 22 fast 4;service brie bay 3;service goat alp 1;"
            + "login ann 11 renewable;refer 0 bay;pass 5;request 0 goat;login ben 22;request 3 brie;cheese 4;pass 1;";

    private InputEdges() {
    }

    static void run() {
        newObject();
        appendedBytes();
        appendedLength();
        truncate();
        load();
        loadThatThrows();
        error();
        findName();
        foundNumbers();
    }

    private static void newObject() {
        String sentence = "Creates the gate with the state that section 6 describes, an empty input buffer, no error, an empty "
                + "output and no saved states.";
        Edge.of("Promise 1", sentence, () -> {
            Gate gate = new Gate();
            Check.same("state", Check.picture(gate), Check.picture(Check.loaded(START)));
            Check.fails("a byte of input", Check.ARGUMENT, () -> gate.truncateInput(1));
            Check.same("length of the input", gate.truncateInput(0), 0);
            Check.same("error", gate.errorCode(), 0);
            Check.same("error position", gate.errorPosition(), TicketGate.NONE);
            Check.fails("a byte of output", Check.ELEMENT, () -> gate.outputByte(0));
            Check.fails("slot 0", Check.STATE, () -> gate.restore(0));
            Check.fails("slot 1", Check.STATE, () -> gate.restore(1));
            Check.fails("a remembered call", Check.STATE, () -> gate.undo());
        });
    }

    /** Each byte is told by a text in which it has to stand at its place. */
    private static void appendedBytes() {
        Edge.of("Promise 2", "Appends 20 bytes to the input buffer: the four bytes of each argument, the most significant byte "
                + "first.", () -> {
            Gate gate = new Gate();
            gate.appendInput(0x67617465, 0x20392031, 0x3032333b, 0x73776565, 0x703b0a20); // gate 9 1023;sweep;
            Check.same("it loads", gate.load(), 0);
            Check.same("seed", gate.seed(), 1023);
            gate.appendInput(0x67617465, 0x20392031, 0x3032333b, 0x20202020, 0x202020ff);
            Check.fails("the byte 255", Check.ARGUMENT, () -> gate.load());
            Check.same("is at the end", gate.errorPosition(), 19);
            gate.appendInput(0xffffffff, 0xffffffff, 0xffffffff, 0xffffffff, 0xffffffff);
            Check.fails("bytes 255", Check.ARGUMENT, () -> gate.load());
            Check.same("the first one", gate.errorPosition(), 0);
            gate.appendInput(0x67617465, 0x20392031, 0x3032333b, 0x8a202020, 0x20202020);
            Check.fails("the byte 138 is no line feed", Check.ARGUMENT, () -> gate.load());
            Check.same("at 12", gate.errorPosition(), 12);
        });
        String[] lines = {"- `a`: bytes 1 to 4", "- `b`: bytes 5 to 8", "- `c`: bytes 9 to 12", "- `d`: bytes 13 to 16",
            "- `e`: bytes 17 to 20"};
        for (int argument = 0; argument < lines.length; argument++) {
            int place = argument;
            Edge.of("Promise 2", lines[argument], () -> {
                for (int i = 0; i < 4; i++) {
                    byteIsAt(4 * place + i);
                }
            });
        }
    }

    /** All bytes are blanks but one, which load finds at its place. */
    private static void byteIsAt(int place) {
        Gate gate = new Gate();
        int[] fours = new int[5];
        java.util.Arrays.fill(fours, 0x20202020);
        fours[place / 4] += ('x' - ' ') << 8 * (3 - place % 4);
        Check.same("length", gate.appendInput(fours[0], fours[1], fours[2], fours[3], fours[4]), 20);
        Check.fails("no gate", Check.ARGUMENT, () -> gate.load());
        Check.same("byte " + (place + 1), gate.errorPosition(), place);
    }

    private static void appendedLength() {
        Edge.of("Promise 2", "Returns the new length of the buffer.", () -> {
            Gate gate = new Gate();
            for (int length = 20; length <= 600; length += 20) {
                Check.same("length", gate.appendInput(0, 0, 0, 0, 0), length);
            }
            gate.truncateInput(7);
            Check.same("after a cut", gate.appendInput(0, 0, 0, 0, 0), 27);
            gate.truncateInput(0);
            Check.same("from 0", gate.appendInput(-1, -1, -1, -1, -1), 20);
        });
        Edge.of("Promise 2", "Throws `IllegalStateException` if the new length would be greater than 600", () -> {
            Check.same("600 are taken", filled(580).appendInput(0, 0, 0, 0, 0), 600);
            for (int length : new int[] {581, 590, 599, 600}) {
                Twin.refuses("20 more than " + length, Check.STATE, () -> filled(length), gate -> gate.appendInput(1, 2, 3, 4, 5));
                Gate gate = filled(length);
                Check.answer(() -> gate.appendInput(0, 0, 0, 0, 0));
                Check.same("the bytes stay", gate.load() + " " + gate.seed(), "0 77");
            }
            Gate gate = filled(581);
            gate.truncateInput(580);
            Check.same("room again after a cut", gate.appendInput(0x20202020, 0, 0, 0, 0), 600);
        });
    }

    /** A gate whose input is a text of this length that loads. */
    private static Gate filled(int length) {
        Gate gate = new Gate();
        Check.put(gate, "gate 2" + " ".repeat(length - 9) + "77;");
        return gate;
    }

    private static void truncate() {
        Edge.of("Promise 3", "Truncates the input buffer.", () -> {
            Gate gate = new Gate();
            Check.put(gate, "bayz");
            gate.truncateInput(3);
            Check.same("the first bytes stay", gate.findName(), 1);
            gate.truncateInput(0);
            Check.same("none stays", gate.findName(), TicketGate.NONE);
        });
        Edge.of("Promise 3", "- `length`: the new length, 0 to the current length", () -> {
            Gate gate = filled(600);
            Check.same("600 of 600", gate.truncateInput(600), 600);
            Check.same("599 of 600", gate.truncateInput(599), 599);
            Check.fails("600 of 599", Check.ARGUMENT, () -> gate.truncateInput(600));
            Check.same("1 of 599", gate.truncateInput(1), 1);
            Check.fails("2 of 1", Check.ARGUMENT, () -> gate.truncateInput(2));
            Check.same("0 of 1", gate.truncateInput(0), 0);
            Check.same("0 of 0", gate.truncateInput(0), 0);
            Check.fails("1 of 0", Check.ARGUMENT, () -> gate.truncateInput(1));
        });
        Edge.of("Promise 3", "Returns the new length.", () -> {
            Gate gate = filled(600);
            for (int length = 600; length >= 0; length -= 100) {
                Check.same("to " + length, gate.truncateInput(length), length);
            }
        });
        Edge.of("Promise 3", "Throws `IllegalArgumentException` if the length is out of range", () -> {
            for (int length : new int[] {Integer.MIN_VALUE, -1, 21, 600, 601, Integer.MAX_VALUE}) {
                Twin.refuses("to " + length + " of 20", Check.ARGUMENT, () -> filled(20), gate -> gate.truncateInput(length));
            }
            Twin.refuses("to 601 of 600", Check.ARGUMENT, () -> filled(600), gate -> gate.truncateInput(601));
            Twin.refuses("to 1 of 0", Check.ARGUMENT, Gate::new, gate -> gate.truncateInput(1));
        });
    }

    private static void load() {
        Edge.of("Promise 4", "Parses the input buffer and replaces the state by the result.", () -> {
            Gate gate = new Gate();
            Check.load(gate, "gate 0 0;");
            Check.same("nothing of the old state", "" + gate.realmCount() + gate.userCount() + gate.serviceCount()
                    + gate.ticketCount() + gate.useCount() + gate.time() + gate.seed(), "0000000");
            Check.load(gate, START);
            Check.same("all of the new state", Check.picture(gate), Check.picture(new Gate()));
        });
        Edge.of("Promise 4", "The input buffer is empty afterwards, also if the text has an error.", () -> {
            Gate gate = filled(600);
            gate.load();
            Check.same("after a good text", Twin.inputLength(gate), 0);
            Check.same("room for 20", gate.appendInput(0, 0, 0, 0, 0), 20);
            Check.fails("a bad text", Check.ARGUMENT, () -> gate.load());
            Check.same("after a bad text", Twin.inputLength(gate), 0);
            Check.fails("no text", Check.ARGUMENT, () -> gate.load());
            Check.same("after no text", Twin.inputLength(gate), 0);
            Check.same("no name is found in it", gate.findName(), TicketGate.NONE);
        });
        Edge.of("Promise 4", "Returns the number of tickets.", () -> {
            Check.same("none", Check.load(new Gate(), "gate 0 0;"), 0);
            Check.same("24", Check.load(new Gate(), HEAD + "login u 7;".repeat(24)), 24);
            Check.same("of dropped ones none", Check.load(new Gate(), HEAD + "login u 7;login u 7;drop 0;"), 1);
            Check.same("those that are not valid too", Check.load(new Gate(), HEAD + "login u 7;pass 10;"), 1);
        });
    }

    private static void loadThatThrows() {
        Edge.of("Promise 4", "If the text has an error, the state does not change, and the error code and the error position "
                + "are stored.", () -> {
            for (String text : new String[] {"", "gate 9 9;realm", HEAD + "login u 7;login u 8;", "gate 0 0;gate"}) {
                Gate gate = new Gate();
                gate.save(0);
                gate.pass(3);
                String before = Check.picture(gate);
                Check.put(gate, text);
                Check.fails("load " + text, Check.ARGUMENT, () -> gate.load());
                Check.same("state after " + text, Check.picture(gate), before);
                Check.same("a code is stored", gate.errorCode() > 0, true);
                Check.same("a position is stored", gate.errorPosition() >= 0, true);
                Check.same("it is not remembered", gate.undo(), 0);
                Check.same("the slot stays", gate.restore(0), 6);
            }
        });
        Edge.of("Promise 4", "Throws `IllegalArgumentException` if the text has an error", () -> {
            String[] bad = {"gate 2 5", "gate 10 5;", HEAD + "realm a 1 1 even;", HEAD + "drop 0;",
                "gate 0 0;realm a 1 0 even;realm b 1 0 even;realm c 1 0 even;realm d 1 0 even;realm e 1 0 even;realm", HEAD + "login u 8;"};
            for (int code = 1; code <= bad.length; code++) {
                Gate gate = new Gate();
                Check.put(gate, bad[code - 1]);
                Check.fails("error " + code, Check.ARGUMENT, () -> gate.load());
                Check.same("code", gate.errorCode(), code);
            }
            Check.same("a good text", Check.load(new Gate(), "gate 0 0;"), 0);
        });
    }

    private static void error() {
        Edge.of("Promise 5", "Returns the error code of the latest call of load; 0 if it had no error or if load was not called.", () -> {
            Gate gate = new Gate();
            Check.same("not called", gate.errorCode(), 0);
            Check.answer(() -> Check.load(gate, HEAD + "login u 8;"));
            Check.same("an error", gate.errorCode(), 6);
            Check.answer(() -> Check.load(gate, "gate 10"));
            Check.same("another one", gate.errorCode(), 2);
            gate.pass(1);
            gate.undo();
            Check.same("other calls leave it", gate.errorCode(), 2);
            Check.load(gate, HEAD);
            Check.same("no error", gate.errorCode(), 0);
        });
        Edge.of("Promise 6", "Returns the error position of the latest call of load; NONE if it had no error or if load was not "
                + "called.", () -> {
            Gate gate = new Gate();
            Check.same("not called", gate.errorPosition(), TicketGate.NONE);
            Check.answer(() -> gate.load());
            Check.same("the least", gate.errorPosition(), 0);
            Check.answer(() -> Check.load(gate, " ".repeat(600)));
            Check.same("the greatest", gate.errorPosition(), 600);
            gate.appendInput(0, 0, 0, 0, 0);
            gate.truncateInput(0);
            Check.same("other calls leave it", gate.errorPosition(), 600);
            Check.load(gate, HEAD);
            Check.same("no error", gate.errorPosition(), TicketGate.NONE);
        });
    }

    private static void findName() {
        Edge.of("Promise 12", "Finds the realm, user or service whose name is the whole input buffer.", () -> {
            Gate gate = Check.loaded("gate 0 0;realm a 1 0 even;realm abcd 1 0 even;user zz a 1 even;service abc a 1;");
            Check.same("one letter", Check.find(gate, "a"), 0);
            Check.same("four letters", Check.find(gate, "abcd"), 1);
            Check.same("three letters", Check.find(gate, "abc"), 200);
            for (String none : new String[] {"ab", "abcde", " a", "a ", "a\n", "a\0", "\0a", "z", "zzz", "A", "abcdabcd", "aa", "a;"}) {
                Check.same("not \"" + none + "\"", Check.find(gate, none), TicketGate.NONE);
            }
            Check.put(gate, "a".repeat(600));
            Check.same("not 600 letters", gate.findName(), TicketGate.NONE);
        });
        Edge.of("Promise 12", "The input buffer does not change.", () -> {
            for (String text : new String[] {"", "bay", "none", "gate 2 77;"}) {
                Twin.unchanged("find " + text, () -> {
                    Gate gate = new Gate();
                    Check.put(gate, text);
                    return gate;
                }, Gate::findName);
            }
        });
    }

    private static void foundNumbers() {
        String sentence = "Returns the number of the realm, 100 plus the number of the user, or 200 plus the number of the "
                + "service; NONE if there is none.";
        Edge.of("Promise 12", sentence, () -> {
            Gate gate = Check.loaded("gate 0 0;realm a 1 0 even;realm b 1 0 even;realm c 1 0 even;realm d 1 0 even;realm e 1 0 even;"
                    + "user f a 1 even;user g a 1 even;user h a 1 even;user i a 1 even;user j a 1 even;user k a 1 even;service l a 1;"
                    + "service m a 1;service n a 1;service o a 1;service p a 1;service q a 1;");
            int[] codes = {0, 1, 2, 3, 4, 100, 101, 102, 103, 104, 105, 200, 201, 202, 203, 204, 205, -1};
            for (int i = 0; i < codes.length; i++) {
                Check.same("the name " + (char) ('a' + i), Check.find(gate, "" + (char) ('a' + i)), codes[i]);
            }
            Check.same("an empty buffer", gate.findName(), TicketGate.NONE);
            Check.load(gate, "gate 0 0;");
            Check.same("a name of the text before", Check.find(gate, "a"), TicketGate.NONE);
            Check.same("an empty buffer and no names", gate.findName(), TicketGate.NONE);
        });
    }
}
