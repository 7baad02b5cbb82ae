/** The sections 4 and 5: ways along trust, tokens, statements and errors of the input text. */
final class TextEdges {
    private static final String HEAD = "gate 2 5;realm a 10 20 even;realm b 10 20 even;user u a 7 even;service s a 2;";
    private static final int H = HEAD.length();
    private static final int MAX_INPUT = 600;

    private TextEdges() {
    }

    static void run() {
        distance();
        buffer();
        tokens();
        names();
        clocks();
        statementsOfAdding();
        statementsOfTickets();
        order();
        positions();
        notAllowed();
        codes();
        lateCodes();
    }

    private static void distance() {
        String sentence = "The distance from one realm to another one is the smallest number of referrals that lead from the first one "
                + "to the second one along trust; it is 0 from a realm to itself.";
        Edge.of("Section 4", sentence, () -> {
            String ring = "gate 0 0;realm a 1 0 even;realm b 1 0 even;realm c 1 0 even;realm d 1 0 even;realm e 1 0 even;"
                    + "trust a b;trust b c;trust c d;trust d e;trust e a;";
            Gate gate = Check.loaded(ring);
            Check.same("to itself, in a ring", gate.distance(0, 0), 0);
            Check.same("to the next one", gate.distance(0, 1), 1);
            Check.same("the greatest", gate.distance(0, 4), 4);
            Check.same("against the ring", gate.distance(1, 0), 4);
            Gate shorter = Check.loaded(ring + "trust a d;");
            Check.same("by a shorter way", shorter.distance(0, 4), 2);
            Check.same("a longer way to the same realm", shorter.distance(0, 3), 1);
            Gate lone = Check.loaded("gate 0 0;realm a 1 0 even;");
            Check.same("to itself, without trust", lone.distance(0, 0), 0);
        });
    }

    private static void buffer() {
        Edge.of("Section 5", "The input buffer holds at most 600 bytes.", () -> {
            Gate gate = new Gate();
            String text = "gate 2 9" + " ".repeat(MAX_INPUT - 9) + ";";
            Check.same("600 bytes load", Check.load(gate, text), 0);
            Check.same("the last byte was read", gate.seed(), 9);
            Check.put(gate, text);
            Check.fails("620 bytes", Check.STATE, () -> gate.appendInput(0, 0, 0, 0, 0));
        });
        Edge.of("Section 5", "The method load parses it as a sequence of statements.", () -> {
            Check.same("one statement", Check.loaded("gate 2 9;").seed(), 9);
            String sweeps = "gate 2 9;" + "sweep;".repeat(98);
            Check.same("as many as there is room for", Check.loaded(sweeps + "\n\n\n").seed(), 9);
            Check.error(sweeps + "x", 1, sweeps.length());
            Check.error("", 1, 0);
        });
    }

    private static void tokens() {
        Edge.of("Section 5", "A word is a maximal run of the letters a to z.", () -> {
            Check.same("a and z are letters", Check.find(Check.loaded("gate 0 0;realm az 1 0 even;"), "az"), 0);
            Check.error("gate 2 5;sweep`;", 1, 14);
            Check.error("gate 2 5;sweep{;", 1, 14);
            Check.error("gate 2 5;sweepA;", 1, 14);
            Check.error("gate 2 5;sweepZ;", 1, 14);
            Check.error("gate 2 5;sweepa;", 1, 9);
            Check.error("gate 2 5;swee p;", 1, 9);
            Check.same("a digit ends a word", Check.loaded("gate2 5;realm a10 20even;").realmCount(), 1);
        });
        Edge.of("Section 5", "A number is a maximal run of decimal digits of any length; leading zeros have no effect.", () -> {
            Check.same("of 586 digits", Check.loaded("gate 9 " + "0".repeat(582) + "1023;").seed(), 1023);
            Check.same("0 of 586 digits", Check.loaded("gate 9 " + "0".repeat(586) + ";").seed(), 0);
            Check.error("gate 9 1" + "0".repeat(585) + ";", 2, 7);
            Check.error("gate 9 " + "9".repeat(586) + ";", 2, 7);
            Check.error("gate 9 2147483648;", 2, 7);
            Check.error("gate 9 4294967296;", 2, 7);
            Check.error("gate 9 4294967297;", 2, 7);
            Check.error("gate 18446744073709551616 5;", 2, 5);
            Check.same("a number of a ticket", Check.loaded(HEAD + "login u 007;drop 000;").ticketCount(), 0);
            Check.same("0 and 9 are digits", Check.loaded("gate 9 90;").seed(), 90);
            Check.error("gate 9 90/;", 1, 9);
            Check.error("gate 9 90:;", 1, 9);
            Check.error("gate 9 9 0;", 1, 9);
        });
        Edge.of("Section 5", "Every other byte, except the space (32) and the line feed (10), is a token of its own.", () -> {
            for (int sign = 0; sign < 256; sign++) {
                boolean blank = sign == ' ' || sign == '\n';
                boolean run = sign >= 'a' && sign <= 'z' || sign >= '0' && sign <= '9';
                if (!blank && !run && sign != ';') {
                    Check.error("gate 2 5;sweep" + (char) sign + (char) sign + ";", 1, 14);
                    Check.error("gate 2 5" + (char) sign + ";", 1, 8);
                }
            }
            Check.error("gate 2 5;;", 1, 9);
            Check.same("the semicolon ends a word and a number", Check.loaded("gate 2 5;sweep;sweep;").seed(), 5);
        });
        Edge.of("Section 5", "Spaces and line feeds only separate tokens.", () -> {
            Check.same("before, after and between", Check.loaded(" \n gate \n\n 2  5 \n;\n sweep ; \n").seed(), 5);
            Check.same("none where none is needed", Check.loaded("gate2 5;sweep;").seed(), 5);
            Check.error("gate 2\n5 5;", 1, 9);
            Check.error("ga te 2 5;", 1, 0);
            Check.error("ga\nte 2 5;", 1, 0);
            Check.error("   \n", 1, 4);
        });
    }

    private static void names() {
        Edge.of("Section 5", "Any word of 1 to 4 letters can be a name.", () -> {
            Gate gate = Check.loaded("gate 9 0;realm gate 1 0 even;realm even 1 0 fast 1;realm fast 1 0 even;realm slow 1 0 even;"
                    + "realm q 1 0 even;user user even 7 even;user drop fast 7 slow 2;service pass slow 3;trust gate even;login drop 7;");
            String[] names = {"gate", "even", "fast", "slow", "q", "user", "drop", "pass"};
            int[] codes = {0, 1, 2, 3, 4, 100, 101, 200};
            for (int i = 0; i < names.length; i++) {
                Check.same(names[i], Check.find(gate, names[i]), codes[i]);
            }
            Check.same("home of drop", gate.homeOf(1), 2);
            Check.error("gate 0 0;realm sweep 1 0 even;", 2, 15);
            Check.error("gate 0 0;realm abcde 1 0 even;", 2, 15);
        });
        Edge.of("Section 5", "REALM, USER and SERVICE are names, TICKET is the number of a ticket.", () -> {
            for (String text : new String[] {"trust 0 b;|6", "trust a 1;|8", "user v 0 7 even;|7", "service t 0 7;|10", "login 0 7;|6",
                "refer u b;|6", "request a s;|8", "renew a;|6", "cheese s;|7", "drop u;|5",
                "login u 7;refer 0 1;|18", "login u 7;request 0 0;|20"}) {
                rest(text, 1);
            }
            Check.same("the number of a ticket is no index", Check.loaded(HEAD + "login u 7;login u 7;drop 0;drop 1;").ticketCount(), 0);
        });
    }

    private static void clocks() {
        String sentence = "CLOCK is the word even (the offset 0), or the word fast or slow and a number from 1 to 9 "
                + "(the offset is the number or minus the number).";
        Edge.of("Section 5", sentence, () -> {
            Gate gate = Check.loaded("gate 9 0;realm a 1 0 even;realm b 1 0 fast 1;realm c 1 0 fast 9;realm d 1 0 slow 1;"
                    + "realm e 1 0 slow 9;"
                    + "user u a 7 even;user v a 7 fast 1;user w a 7 fast 9;user x a 7 slow 1;user y a 7 slow 0009;");
            int[] offsets = {0, 1, 9, -1, -9};
            for (int i = 0; i < offsets.length; i++) {
                Check.same("realm " + i, gate.clockOf(i), offsets[i]);
                Check.same("user " + i, gate.setClock(i, 0), offsets[i]);
            }
            for (String way : new String[] {"fast", "slow"}) {
                rest("realm c 1 1 " + way + " 0;|17", 2);
                rest("realm c 1 1 " + way + " 10;|17", 2);
                rest("realm c 1 1 " + way + ";|16", 1);
                rest("user v a 7 " + way + " 0;|16", 2);
                rest("user v a 7 " + way + " 10;|16", 2);
                rest("user v a 7 " + way + " even;|16", 1);
            }
            rest("realm c 1 1 even 0;|17", 1);
            rest("user v a 7 even 1;|16", 1);
            rest("realm c 1 1 5;|12", 1);
            rest("user v a 7 ;|11", 1);
        });
    }

    /** A statement behind HEAD, and where its error is, counted from its first byte. */
    private static void rest(String marked, int code) {
        int bar = marked.lastIndexOf('|');
        Check.error(HEAD + marked.substring(0, bar), code, H + Integer.parseInt(marked.substring(bar + 1)));
    }

    private static void statementsOfAdding() {
        Edge.of("Section 5", "gate TOLERANCE SEED ;                the tolerance and the seed; this is the first statement, and "
                + "it occurs only there", () -> {
            Check.same("alone", Check.loaded("gate 2 5;").seed(), 5);
            Check.error("sweep;", 1, 0);
            Check.error("realm a 1 1 even;gate 2 5;", 1, 0);
            Check.error("gate 2 5;gate 2 5;", 1, 9);
            Check.error(HEAD + "gate 2 5;", 1, H);
        });
        Edge.of("Section 5", "realm NAME LIFETIME RENEWABLE CLOCK ;  adds a realm", () ->
            Check.same("the third one", Check.find(Check.loaded(HEAD + "realm c 1 0 even;"), "c"), 2));
        Edge.of("Section 5", "trust REALM REALM ;                  the first realm trusts the second one", () -> {
            Gate gate = Check.loaded(HEAD + "trust b a;");
            Check.same("b to a", gate.trusts(1, 0), true);
            Check.same("a to b", gate.trusts(0, 1), false);
        });
        Edge.of("Section 5", "user NAME REALM PASSWORD CLOCK ;     adds a user", () ->
            Check.same("the second one", Check.find(Check.loaded(HEAD + "user v b 0 even;"), "v"), 101));
        Edge.of("Section 5", "service NAME REALM CHEESES ;         adds a service", () ->
            Check.same("the second one", Check.find(Check.loaded(HEAD + "service t b 0;"), "t"), 201));
    }

    private static void statementsOfTickets() {
        Edge.of("Section 5", "login USER PASSWORD ;                a login", () ->
            Check.same("not renewable", Check.loaded(HEAD + "login u 7;").isRenewable(0), false));
        Edge.of("Section 5", "login USER PASSWORD renewable ;      a login for a renewable ticket", () -> {
            Check.same("renewable", Check.loaded(HEAD + "login u 7 renewable;").isRenewable(0), true);
            rest("login u 7 renewabl;|10", 1);
            rest("login u 7 renewables;|10", 1);
        });
        Edge.of("Section 5", "refer TICKET REALM ;                 a referral", () ->
            Check.same("realm", Check.loaded(HEAD + "trust a b;login u 7;refer 0 b;").realmOf(1), 1));
        Edge.of("Section 5", "request TICKET SERVICE ;             a request", () ->
            Check.same("service", Check.loaded(HEAD + "login u 7;request 0 s;").serviceOf(1), 0));
        Edge.of("Section 5", "renew TICKET ;                       renews a ticket", () ->
            Check.same("end", Check.loaded(HEAD + "login u 7 renewable;pass 3;renew 0;").endOf(0), 13));
        Edge.of("Section 5", "cheese TICKET ;                      a cheese is given", () ->
            Check.same("cheeses", Check.loaded(HEAD + "login u 7;request 0 s;cheese 1;").cheesesOf(0), 1));
        Edge.of("Section 5", "drop TICKET ;                        a ticket is dropped", () ->
            Check.same("tickets", Check.loaded(HEAD + "login u 7;drop 0;").ticketCount(), 0));
        Edge.of("Section 5", "sweep ;                              all tickets that are not valid are swept away", () -> {
            Check.same("none", Check.loaded(HEAD + "sweep;").ticketCount(), 0);
            Check.same("a minute before the end", Check.loaded(HEAD + "login u 7;pass 9;sweep;").ticketCount(), 1);
            Check.same("at the end", Check.loaded(HEAD + "login u 7;pass 10;sweep;").ticketCount(), 0);
        });
        Edge.of("Section 5", "pass MINUTES ;                       minutes pass, 0 to 999", () -> {
            Check.same("0", Check.loaded(HEAD + "pass 0;").time(), 0);
            Check.same("999", Check.loaded(HEAD + "pass 999;").time(), 999);
            rest("pass 1000;|5", 2);
            Check.same("0 makes no use forgotten", Check.loaded(HEAD + "login u 7;request 0 s;cheese 1;pass 0;pass 2;").useCount(), 1);
            Check.same("a use is forgotten", Check.loaded(HEAD + "login u 7;request 0 s;cheese 1;pass 3;").useCount(), 0);
        });
    }

    private static void order() {
        Edge.of("Section 5", "The statements are executed in the order of the text.", () -> {
            Check.same("a cheese before the end", Check.loaded(HEAD + "login u 7;request 0 s;cheese 1;pass 10;").cheesesOf(0), 1);
            rest("login u 7;request 0 s;pass 10;cheese 1;|38", 6);
            rest("user v c 7 even;realm c 1 1 even;|7", 4);
            rest("drop 0;login u 7;|5", 4);
        });
        Edge.of("Section 5", "The parser reads the tokens from left to right and stops at the first token that has an error.", () -> {
            rest("login u 10000;drop 0;|8", 2);
            rest("drop 0;login u 10000;|5", 4);
            rest("realm abcde 1000 10000 odd|6", 2);
            rest("trust a a,|8", 3);
            rest("login v 10000|6", 4);
            rest("login u 8;?|9", 6);
            Check.error("?gate 10 1024;", 1, 0);
        });
        Edge.of("Section 5", "If that token has several errors, the smallest error code applies.", () -> {
            rest("login u 8,|9", 1);
            rest("login u 8 9;|10", 1);
            rest("trust a b;trust a b b;|20", 1);
            rest("login u 7;refer 0 b 1;|20", 1);
            rest("login u 7;cheese 0 0;|19", 1);
            rest("login u 7;renew 0 renewable;|18", 1);
            rest("trust a 99999;|8", 1);
            String five = "gate 0 0;realm a 1 0 even;realm b 1 0 even;realm c 1 0 even;realm d 1 0 even;realm e 1 0 even;";
            Check.error(five + "trust realm a;", 4, five.length() + 6);
            Check.error(five + "pass realm", 1, five.length() + 5);
            Check.error(five + "trust a realm;", 4, five.length() + 8);
        });
    }

    private static void positions() {
        String sentence = "The error position is the offset of the first byte of the token; it is the length of the text if the "
                + "text ends too early.";
        Edge.of("Section 5", sentence, () -> {
            Check.error("?", 1, 0);
            Check.error("gate 2 5;   sweeps;", 1, 12);
            Check.error("gate 2   1024;", 2, 9);
            Check.error("gate 2 5;realm   abcde 1 1 even;", 2, 17);
            Check.error("gate 2 5", 1, 8);
            Check.error("gate 2 5 \n ", 1, 11);
            Check.error("gate 2 5;swee", 1, 9);
            Check.error("gate 2 5;sweep", 1, 14);
            Check.error("gate 2 5" + " ".repeat(MAX_INPUT - 8), 1, MAX_INPUT);
            Check.error("gate 2 5;" + " ".repeat(MAX_INPUT - 10) + "?", 1, MAX_INPUT - 1);
            Check.error("\n\n", 1, 2);
        });
        Edge.of("Section 5 code 1", "the token is not allowed here, or the text ends too early (also an empty text)", () -> {
            Check.error("", 1, 0);
            Check.error("gate", 1, 4);
            Check.error("gate 2", 1, 6);
            Check.error("gate 2 ;", 1, 7);
            rest("trust a b|9", 1);
            rest("login u 7 renewable|19", 1);
            rest("login u 8|9", 1);
            rest("realm c 1 1 fast|16", 1);
            rest("gate|0", 1);
        });
    }

    /** Each token of each statement, and the text behind it, is put in the wrong place once. */
    private static void notAllowed() {
        Edge.of("Section 5 code 1", "the token is not allowed here, or the text ends too early (also an empty text)", () -> {
            wrongTokens("", "gate 2 5 ;");
            String head = HEAD + "trust a b;login u 7 renewable;request 0 s;pass 1;";
            for (String statement : new String[] {"realm c 1 1 even ;", "realm c 1 1 fast 1 ;", "trust b a ;", "user v a 7 even ;",
                "user v a 7 slow 1 ;", "service t a 7 ;", "login u 7 ;", "login u 7 renewable ;", "refer 0 b ;", "request 0 s ;",
                "renew 0 ;", "cheese 1 ;", "drop 0 ;", "sweep ;", "pass 5 ;"}) {
                Check.same(statement, Check.answer(() -> Check.load(new Gate(), head + statement)) instanceof Integer, true);
                wrongTokens(head, statement);
            }
        });
    }

    private static void wrongTokens(String head, String statement) {
        String[] tokens = statement.split(" ");
        StringBuilder before = new StringBuilder(head);
        for (int i = 0; i < tokens.length; i++) {
            for (String wrong : wrongFor(tokens[i])) {
                Check.error(before + wrong + " ;", 1, before.length());
            }
            if (i > 0 || head.isEmpty()) {
                Check.error(before.toString(), 1, before.length());
            }
            before.append(tokens[i]).append(' ');
        }
    }

    private static String[] wrongFor(String token) {
        if (token.equals(";")) {
            return new String[] {"?", "x", "7", ":", "even"};
        }
        if (token.matches("\\d+")) {
            return new String[] {"?", "x", ";", "-1", "even"};
        }
        if (token.length() == 1) {
            return new String[] {"?", "7", ";", "A"};
        }
        return new String[] {"?", "7", token.equals("renewable") ? "renew" : ";", "x" + token.substring(1), token + "s",
            token.substring(0, token.length() - 1), token.toUpperCase()};
    }

    private static void codes() {
        Edge.of("Section 5 code 2", "a number is out of range", () -> {
            Check.error("gate 10 5;", 2, 5);
            Check.error("gate 9 1024;", 2, 7);
            for (String text : new String[] {"realm c 0 0 even;|8", "realm c 1000 0 even;|8", "realm c 1 10000 even;|10",
                "user v a 10000 even;|9", "service t a 100;|12", "login u 10000;|8", "pass 1000;|5"}) {
                rest(text, 2);
            }
        });
        Edge.of("Section 5 code 2", "a new name of more than 4 letters", () -> {
            rest("realm aaaaa 1 1 even;|6", 2);
            rest("user aaaaa a 1 even;|5", 2);
            rest("service aaaaa a 1;|8", 2);
            rest("realm " + "a".repeat(300) + " 1 1 even;|6", 2);
            rest("trust aaaaa b;|6", 4);
        });
        Edge.of("Section 5 code 3", "a new name that a realm, a user or a service has already", () -> {
            for (String name : new String[] {"a", "b", "u", "s"}) {
                rest("realm " + name + " 1 1 even;|6", 3);
                rest("user " + name + " a 1 even;|5", 3);
                rest("service " + name + " a 1;|8", 3);
            }
            Check.same("the same name of another text", Check.loaded("gate 0 0;realm alp 1 0 even;user ann alp 1 even;").realmCount(), 1);
            Check.same("a part of a name", Check.loaded(HEAD + "realm aa 1 1 even;").realmCount(), 3);
        });
        Edge.of("Section 5 code 3", "the second REALM of a trust statement that is the first one", () -> {
            rest("trust a a;|8", 3);
            rest("trust b b;|8", 3);
            rest("trust c c;|6", 4);
        });
        Edge.of("Section 5 code 4", "a REALM, USER, SERVICE or TICKET that does not exist", () -> {
            for (String text : new String[] {"trust c b;|6", "trust a c;|8", "trust u b;|6", "user v c 7 even;|7", "service t s 7;|10",
                "login a 7;|6", "login s 7;|6", "refer 0 b;|6", "request 0 s;|8", "renew 0;|6", "cheese 0;|7", "drop 0;|5",
                "login u 7;refer 0 u;|18", "login u 7;request 0 a;|20", "login u 7;request 0 u;|20", "login u 7;renew 1;|16",
                "login u 7;drop 0;renew 0;|23", "login u 7;pass 10;sweep;cheese 0;|31", "login u 7;drop 4294967296;|15"}) {
                rest(text, 4);
            }
            rest("trust alp b;|6", 4);
            rest("login ann 11;|6", 4);
            rest("user v v 7 even;|7", 4);
        });
    }

    private static void lateCodes() {
        Edge.of("Section 5 code 5", "the word realm when there are 5 realms, user when there are 6 users, service when there "
                + "are 6 services", () -> {
            String realms = "gate 2 5;realm a 1 1 even;realm b 1 1 even;realm c 1 1 even;realm d 1 1 even;";
            Check.same("the fifth realm", Check.loaded(realms + "realm e 1 1 even;").realmCount(), 5);
            realms = realms + "realm e 1 1 even;";
            Check.error(realms + " realm a", 5, realms.length() + 1);
            String users = "gate 2 5;realm a 1 1 even;user b a 1 even;user c a 1 even;user d a 1 even;user e a 1 even;user f a 1 even;";
            Check.same("the sixth user", Check.loaded(users + "user g a 1 even;").userCount(), 6);
            users = users + "user g a 1 even;";
            Check.error(users + "user", 5, users.length());
            String services = "gate 2 5;realm a 1 1 even;service b a 1;service c a 1;service d a 1;service e a 1;service f a 1;";
            Check.same("the sixth service", Check.loaded(services + "service g a 1;").serviceCount(), 6);
            services = services + "service g a 1;";
            Check.error(services + "service ;", 5, services.length());
            Check.error(services + "servic ;", 1, services.length());
        });
        String sentence = "the semicolon of a login, refer, request, renew or cheese statement that is refused, or of a trust statement "
                + "if the first realm trusts the second one already";
        Edge.of("Section 5 code 6", sentence, () -> {
            for (String text : new String[] {"login u 8 ;|10", "login u 6 renewable;|19", "login u 7;refer 0 b;|19",
                "login u 7;pass 10;request 0 s;|29", "login u 7;renew 0;|17", "login u 7 renewable;renew 0;|27",
                "login u 7;cheese 0;|18", "login u 7;request 0 s;cheese 1;cheese 1;|39", "trust a b;trust a b;|19",
                "trust a b;trust b a;trust b a;|29"}) {
                rest(text, 6);
            }
            Check.same("drop is not refused", Check.loaded(HEAD + "login u 7;pass 10;drop 0;").ticketCount(), 0);
        });
    }
}
