/** The promises 4 to 6 and the section 5: the input text, its statements and its errors. */
public final class LoadTest {
    private static final String HEAD = "gate 2 5;realm a 10 20 even;realm b 10 20 even;user u a 7 even;service s a 2;";
    private static final int H = HEAD.length();

    public static void main(String[] args) {
        answers();
        spaces();
        notAllowed();
        tooEarly();
        ranges();
        names();
        unknown();
        tooMany();
        refused();
        execution();
        Check.end();
    }

    private static void answers() {
        Gate gate = new Gate();
        Check.same("no tickets", Check.load(gate, "gate 9 1023;"), 0);
        Check.same("code", gate.errorCode(), 0);
        Check.same("position", gate.errorPosition(), TicketGate.NONE);
        Check.same("seed", gate.seed(), 1023);
        Check.same("time", gate.time(), 0);
        Check.same("realms", gate.realmCount(), 0);
        Check.same("users", gate.userCount(), 0);
        Check.same("services", gate.serviceCount(), 0);
        Check.same("uses", gate.useCount(), 0);
        Check.same("input is empty", gate.truncateInput(0), 0);
        Check.fails("input is empty", Check.ARGUMENT, () -> gate.truncateInput(1));
        Check.fails("empty text", Check.ARGUMENT, () -> gate.load());
        Check.same("code of it", gate.errorCode(), 1);
        Check.same("position of it", gate.errorPosition(), 0);
        Check.same("seed stays", gate.seed(), 1023);
        Check.same("two tickets", Check.load(gate, HEAD + "login u 7;login u 7;"), 2);
        Check.same("code is 0 again", gate.errorCode(), 0);
        Check.same("position is NONE again", gate.errorPosition(), TicketGate.NONE);
        Check.same("undo", gate.undo(), 1);
        Check.same("seed before", gate.seed(), 1023);
        Check.same("undo", gate.undo(), 0);
        Check.same("start state", Check.picture(gate), Check.picture(new Gate()));
    }

    private static void spaces() {
        String tight = Check.picture(Check.loaded(HEAD + "login u 7 renewable;pass 3;"));
        String wide = "\n gate\n2  5 ;\nrealm a 10 20 even ; realm b 10 20 even ;user u a 7 even;service s a 2;\n"
                + "login u 7 renewable ; pass 3 ;\n ";
        Check.same("spaces and line feeds", Check.picture(Check.loaded(wide)), tight);
        String dense = "gate2 5;realm a10 20even;realm b00000000000000000000010 0020even;user u a7even;service s a2;"
                + "login u7renewable;pass 000000000000000000000000000003;";
        Check.same("no spaces, leading zeros", Check.picture(Check.loaded(dense)), tight);
        Check.error("gate 2 5;\tpass 1;", 1, 9);
        Check.error("gate 2 5;\rpass 1;", 1, 9);
        Check.error("gate 2 5;\0", 1, 9);
    }

    private static void notAllowed() {
        Check.error("realm a 1 1 even;", 1, 0);
        Check.error("  Gate 2 5;", 1, 2);
        Check.error("gates 2 5;", 1, 0);
        Check.error("7", 1, 0);
        Check.error(";", 1, 0);
        Check.error("gate x 5;", 1, 5);
        Check.error("gate -2 5;", 1, 5);
        Check.error("gate 2 ;", 1, 7);
        Check.error("gate 2 5 6;", 1, 9);
        Check.error("gate 2 5,", 1, 8);
        Check.error("gate 2 5;;", 1, 9);
        Check.error("gate 2 5;gate 2 5;", 1, 9);
        Check.error("gate 2 5;gat", 1, 9);
        Check.error("gate 2 5;12", 1, 9);
        Check.error("gate 2 5;realms a 1 1 even;", 1, 9);
        Check.error("gate 2 5;realm 1 1 1 even;", 1, 15);
        Check.error("gate 2 5;realm a b 1 even;", 1, 17);
        Check.error("gate 2 5;realm a 1 b even;", 1, 19);
        Check.error("gate 2 5;realm a 1 1 odd;", 1, 21);
        Check.error("gate 2 5;realm a 1 1 5;", 1, 21);
        Check.error("gate 2 5;realm a 1 1 even 0;", 1, 26);
        Check.error("gate 2 5;realm a 1 1 fast;", 1, 25);
        Check.error("gate 2 5;realm a 1 1 slow x;", 1, 26);
        Check.error("gate 2 5;realm a 1 1 evens;", 1, 21);
        for (String rest : new String[] {"trust 1 b;|6", "trust a 1;|8", "trust a b b;|10", "user 1 a 7 even;|5",
            "user v 1 7 even;|7", "user v a x even;|9", "user v a 7 1;|11", "user v a 7 fast fast;|16",
            "service 1 a 7;|8", "service t 1 7;|10", "service t a x;|12", "service t a 7 7;|14", "login 1 7;|6",
            "login u u;|8", "login u 7 renew;|10", "login u 7 renewable renewable;|20", "login u 7 renewables;|10",
            "login u 7 0;|10", "refer u b;|6", "request u s;|8", "renew u;|6", "cheese u;|7", "drop u;|5",
            "sweep 0;|6", "pass u;|5", "pass 1 1;|7", "pass;|4", "sweep:|5", "loginu 7;|0", "xogin u 7;|0", "logix u 7;|0", "login u 7 xenewable;|10", "trust a %;|8"}) {
            rest(rest, 1);
        }
        rest("login u 7;refer 0 1;|18", 1);
        rest("login u 7;request 0 ;|20", 1);
        rest("login u 7;cheese 0 0;|19", 1);
        rest("user u v 7 even;|5", 3);
    }

    /** A statement behind HEAD, and where its error is, counted from its first byte. */
    private static void rest(String marked, int code) {
        int bar = marked.lastIndexOf('|');
        Check.error(HEAD + marked.substring(0, bar), code, H + Integer.parseInt(marked.substring(bar + 1)));
    }

    private static void tooEarly() {
        Check.error("", 1, 0);
        Check.error("  \n ", 1, 4);
        Check.error("gate", 1, 4);
        Check.error("gate 2 ", 1, 7);
        Check.error("gate 2 5", 1, 8);
        String[] words = (HEAD + "trust a b;login u 7 renewable;refer 0 b;request 0 s;pass 1;renew 1;cheese 2;drop 0;sweep;pass 3;")
                .replace(";", " ;").split(" ");
        StringBuilder text = new StringBuilder();
        for (String word : words) {
            if (text.length() > 0 && !text.toString().endsWith("; ")) {
                Check.error(text.toString(), 1, text.length());
            }
            text.append(word).append(' ');
        }
        for (String rest : new String[] {"drop", "sweep", "pass", "pass 3", "trust", "trust a", "realm c 1 1 slow", "cheese"}) {
            Check.error(HEAD + rest + "\n", 1, H + rest.length() + 1);
        }
    }

    private static void ranges() {
        Check.error("gate 10 5;", 2, 5);
        Check.error("gate 9 1024;", 2, 7);
        Check.error("gate 9 99999999999999999999;", 2, 7);
        Check.error("gate 4294967296 5;", 2, 5);
        Check.error("gate 18446744073709551617 5;", 2, 5);
        for (String rest : new String[] {"realm c 0 0 even;|8", "realm c 1000 0 even;|8", "realm c 1 10000 even;|10",
            "realm c 1 1 fast 0;|17", "realm c 1 1 fast 10;|17", "realm c 1 1 slow 0;|17", "realm c 1 1 slow 10;|17",
            "user v a 10000 even;|9", "user v a 1 fast 0;|16", "user v a 1 slow 10;|16", "service t a 100;|12",
            "login u 10000;|8", "pass 1000;|5", "realm abcde 1 1 even;|6", "user abcde a 1 even;|5",
            "service abcde a 1;|8", "user renewable a 1 even;|5", "pass 4294967297;|5", "service t a 1000000000000;|12"}) {
            rest(rest, 2);
        }
        Gate most = Check.loaded("gate 9 1023;realm a 999 9999 fast 9;user u a 9999 slow 0009;service s a 99;pass 999;pass 0;");
        Check.same("lifetime", most.lifetimeOf(0), 999);
        Check.same("clock", most.clockOf(0), 1008);
        Check.same("skew", most.skew(0, 0), 18);
        Check.same("cheeses", most.cheesesLeft(0), 99);
        Gate least = Check.loaded("gate 0 0;realm a 1 0 slow 1;user u a 0 slow 1;service s a 0;login u 0 renewable;");
        Check.same("lifetime", least.lifetimeOf(0), 1);
        Check.same("clock", least.clockOf(0), -1);
        Check.same("cheeses", least.cheesesLeft(0), 0);
        Check.same("last end", least.lastEndOf(0), 1);
        Check.same("key", least.keyOf(0), 7);
    }

    private static void names() {
        for (String kind : new String[] {"realm %s 1 1 even;|6", "user %s a 1 even;|5", "service %s a 1;|8"}) {
            for (String name : new String[] {"a", "b", "u", "s"}) {
                rest(kind.replace("%s", name), 3);
            }
        }
        rest("trust a a;|8", 3);
        rest("trust b b;|8", 3);
        Gate odd = Check.loaded("gate 1 1;realm gate 1 1 even;realm even 1 1 even;realm fast 1 1 fast 1;trust gate even;"
                + "user user fast 1 slow 1;service pass gate 1;user drop even 1 even;login drop 1;");
        Check.same("gate", Check.find(odd, "gate"), 0);
        Check.same("even", Check.find(odd, "even"), 1);
        Check.same("drop", Check.find(odd, "drop"), 101);
        Check.same("pass", Check.find(odd, "pass"), 200);
        Check.same("a ticket of drop", odd.ownerOf(0), 1);
    }

    private static void unknown() {
        for (String rest : new String[] {"trust c b;|6", "trust a c;|8", "trust u b;|6", "trust a s;|8", "user v c 7 even;|7",
            "user v u 7 even;|7", "service t s 7;|10", "login a 7;|6", "login s 7;|6", "login v 7;|6", "refer 0 b;|6",
            "request 0 s;|8", "renew 0;|6", "cheese 0;|7", "drop 0;|5", "trust abcde b;|6", "trust a abcde;|8",
            "login abcde 7;|6", "user v abcde 7 even;|7", "login u 7;refer 0 u;|18", "login u 7;refer 0 c;|18",
            "login u 7;request 0 a;|20", "login u 7;request 0 abcde;|20", "login u 7;renew 1;|16",
            "login u 7;drop 0;drop 0;|22", "login u 7;drop 99999999999999999999;|15", "login u 7;drop 4294967296;|15",
            "login u 7;pass 10;sweep;drop 0;|29"}) {
            rest(rest, 4);
        }
        Check.same("a ticket with zeros before", Check.load(new Gate(), HEAD + "login u 7;drop 0000000000000000;"), 0);
    }

    private static void tooMany() {
        StringBuilder text = new StringBuilder("gate 2 5;");
        for (char name = 'a'; name <= 'e'; name++) {
            text.append("realm ").append(name).append(" 1 1 even;");
        }
        Check.same("five realms", Check.loaded(text.toString()).realmCount(), 5);
        Check.error(text + "realm f 1 1 even;", 5, text.length());
        Check.error(text + "realm", 5, text.length());
        for (char name = 'f'; name <= 'k'; name++) {
            text.append("user ").append(name).append(" a 1 even;");
        }
        Check.same("six users", Check.loaded(text.toString()).userCount(), 6);
        Check.error(text + " user l a 1 even;", 5, text.length() + 1);
        for (char name = 'l'; name <= 'q'; name++) {
            text.append("service ").append(name).append(" a 1;");
        }
        Check.same("six services", Check.loaded(text.toString()).serviceCount(), 6);
        Check.error(text + "service r a 1;", 5, text.length());
        Check.error(text + "user;", 5, text.length());
        Check.error("realm", 1, 0);
    }

    private static void refused() {
        for (String rest : new String[] {"login u 8;|9", "login u 8 renewable ;|20", "login u 7;refer 0 b;|19",
            "trust a b;trust b a;trust a b;|29", "login u 7;pass 10;trust a b;refer 0 b;|37", "login u 7;renew 0;|17",
            "login u 7 renewable;renew 0;|27", "login u 7;cheese 0;|18", "login u 7;request 0 s;pass 10;cheese 1;|38",
            "login u 7;request 0 s;cheese 1;cheese 1;|39", "login u 7;request 0 s;request 1 s;|33",
            "login u 7;request 0 s;cheese 1;pass 1;cheese 1;pass 1;cheese 1;|62",
            "trust a b;login u 7;refer 0 b;request 1 s;|41"}) {
            rest(rest, 6);
        }
        Check.error("gate 2 5;realm a 9 9 even;user u a 1 fast 3;login u 1;", 6, 53);
        String full = "gate 2 5;realm a 9 9 even;realm b 9 9 even;trust a b;service s a 1;user u a 1 even;"
                + "login u 1;".repeat(24);
        Check.same("24 tickets", Check.load(new Gate(), full), 24);
        Check.error(full + "login u 1;", 6, full.length() + 9);
        Check.error(full + "refer 3 b;", 6, full.length() + 9);
        Check.error(full + "request 3 s;", 6, full.length() + 11);
        Check.same("room after a drop", Check.load(new Gate(), full + "drop 3;login u 1;"), 24);
    }

    private static void execution() {
        Gate gate = Check.loaded(HEAD + "login u 7 renewable;pass 4;trust a b;refer 0 b;request 0 s;renew 0;cheese 2;"
                + "pass 5;drop 2;sweep;pass 0;pass 1;login u 7;pass 0;");
        Check.same("tickets", gate.ticketCount(), 3);
        Check.same("time", gate.time(), 10);
        Check.same("first", gate.ticketAt(0), 0);
        Check.same("second", gate.ticketAt(1), 1);
        Check.same("third", gate.ticketAt(2), 3);
        Check.same("end of the renewed one", gate.endOf(0), 14);
        Check.same("end of the referred one", gate.endOf(1), 10);
        Check.same("end of the new one", gate.endOf(3), 20);
        Check.same("cheeses", gate.cheesesOf(0), 1);
        Check.same("cheeses left", gate.cheesesLeft(0), 1);
        Check.same("trust", gate.trusts(0, 1), true);
        Check.same("difference", gate.cheeseDifference(), 0);
        Check.same("the use is forgotten", gate.useCount(), 0);
    }
}
