import java.util.function.Supplier;

/** The promises 7 to 11 and 13 to 22: time, seed, realms, users and services. */
final class WorldEdges {
    private static final String FIVE = "gate 9 5;realm a 1 0 slow 9;realm b 999 0 fast 9;realm c 2 0 even;realm d 3 0 even;"
            + "realm e 4 0 even;";
    private static final String FULL = FIVE + "user f a 1 even;user g b 1 fast 9;user h c 1 slow 9;user i d 1 even;"
            + "user j e 1 even;user k e 1 even;"
            + "service l a 0;service m b 99;service n c 1;service o d 1;service p e 1;service q d 1;";

    private WorldEdges() {
    }

    static void run() {
        timeAndSeed();
        counts();
        lifetimes();
        clocks();
        trust();
        distance();
        nextRealm();
        homes();
        cheeses();
        skews();
        services();
    }

    private static Gate empty() {
        return Check.loaded("gate 0 0;");
    }

    private static Gate full() {
        return Check.loaded(FULL);
    }

    private static void realmExists(Bounds.Numbered call) {
        Bounds.counted(WorldEdges::empty, 0, Check.INDEX, call);
        Bounds.counted(Gate::new, 3, Check.INDEX, call);
        Bounds.counted(WorldEdges::full, 5, Check.INDEX, call);
    }

    private static void userOrServiceExists(Bounds.Numbered call) {
        Bounds.counted(WorldEdges::empty, 0, Check.INDEX, call);
        Bounds.counted(Gate::new, 2, Check.INDEX, call);
        Bounds.counted(WorldEdges::full, 6, Check.INDEX, call);
    }

    private static void timeAndSeed() {
        Edge.of("Promise 7", "Returns the time.", () -> {
            Check.same("at first", new Gate().time(), 6);
            Gate gate = empty();
            Check.same("the least", gate.time(), 0);
            gate.pass(1);
            Check.same("the next one", gate.time(), 1);
        });
        Edge.of("Promise 8", "Returns the seed.", () -> {
            Check.same("the least", Check.loaded("gate 0 0;").seed(), 0);
            Check.same("the greatest", Check.loaded("gate 0 1023;").seed(), 1023);
            String text = "gate 0 %;realm a 1 0 even;user u a 7 even;login u 7;";
            Check.same("it wraps around", Check.loaded(text.replace("%", "1023")).seed(), 1010);
            Check.same("it becomes 0", Check.loaded(text.replace("%", "341")).seed(), 0);
            Check.same("it becomes 1023", Check.loaded(text.replace("%", "536")).seed(), 1023);
            Check.same("it does not wrap around yet", Check.loaded(text.replace("%", "48")).seed(), 1015);
            Check.same("it does", Check.loaded(text.replace("%", "49")).seed(), 12);
        });
    }

    private static void counts() {
        Edge.of("Promise 9", "Returns the number of realms.", () -> {
            Check.same("none", empty().realmCount(), 0);
            Check.same("some", new Gate().realmCount(), 3);
            Check.same("the most", full().realmCount(), 5);
        });
        Edge.of("Promise 10", "Returns the number of users.", () -> {
            Check.same("none", Check.loaded(FIVE).userCount(), 0);
            Check.same("some", new Gate().userCount(), 2);
            Check.same("the most", full().userCount(), 6);
        });
        Edge.of("Promise 11", "Returns the number of services.", () -> {
            Check.same("none", Check.loaded(FIVE).serviceCount(), 0);
            Check.same("some", new Gate().serviceCount(), 2);
            Check.same("the most", full().serviceCount(), 6);
        });
    }

    private static void lifetimes() {
        Edge.of("Promise 13", "Returns its lifetime.", () -> {
            Check.same("the least", full().lifetimeOf(0), 1);
            Check.same("the greatest", full().lifetimeOf(1), 999);
            Check.same("the last realm's", full().lifetimeOf(4), 4);
        });
        Edge.of("Promise 13", "Throws `IndexOutOfBoundsException` if the realm does not exist", () -> realmExists(Gate::lifetimeOf));
    }

    private static void clocks() {
        Edge.of("Promise 14", "Returns the time that its clock shows.", () -> {
            Gate gate = full();
            Check.same("the least", gate.clockOf(0), -9);
            Check.same("the fastest", gate.clockOf(1), 9);
            Check.same("the last realm's", gate.clockOf(4), 0);
            gate.pass(9);
            Check.same("0 of the slowest", gate.clockOf(0), 0);
            Check.same("18 of the fastest", gate.clockOf(1), 18);
        });
        Edge.of("Promise 14", "Throws `IndexOutOfBoundsException` if the realm does not exist", () -> realmExists(Gate::clockOf));
    }

    private static void trust() {
        Edge.of("Promise 15", "Returns whether the first realm trusts the second one.", () -> {
            Gate none = full();
            Gate corners = Check.loaded(FIVE + "trust a e;trust e a;trust b c;");
            Gate all = allTrust();
            for (int from = 0; from < 5; from++) {
                for (int to = 0; to < 5; to++) {
                    String way = " from " + from + " to " + to;
                    Check.same("none" + way, none.trusts(from, to), false);
                    boolean corner = from == 0 && to == 4 || from == 4 && to == 0 || from == 1 && to == 2;
                    Check.same("some" + way, corners.trusts(from, to), corner);
                    Check.same("all" + way, all.trusts(from, to), from != to);
                }
            }
        });
        String sentence = "Throws `IndexOutOfBoundsException` if one of the realms does not exist";
        Edge.of("Promise 15", sentence, () -> realmExists((gate, realm) -> gate.trusts(realm, realm)));
        Edge.of("Promise 15", sentence, () -> realmExists((gate, realm) -> gate.trusts(realm, 0)));
        Edge.of("Promise 15", sentence, () -> realmExists((gate, realm) -> gate.trusts(0, realm)));
        Edge.of("Promise 16", sentence, () -> realmExists((gate, realm) -> gate.distance(realm, realm)));
        Edge.of("Promise 16", sentence, () -> realmExists((gate, realm) -> gate.distance(realm, 0)));
        Edge.of("Promise 16", sentence, () -> realmExists((gate, realm) -> gate.distance(0, realm)));
        Edge.of("Promise 17", sentence, () -> realmExists((gate, realm) -> gate.nextRealm(realm, realm)));
        Edge.of("Promise 17", sentence, () -> realmExists((gate, realm) -> gate.nextRealm(realm, 0)));
        Edge.of("Promise 17", sentence, () -> realmExists((gate, realm) -> gate.nextRealm(0, realm)));
    }

    /** Each of the five realms trusts each other one: as many trust statements as there can be. */
    private static Gate allTrust() {
        StringBuilder text = new StringBuilder(FIVE);
        for (char from = 'a'; from <= 'e'; from++) {
            for (char to = 'a'; to <= 'e'; to++) {
                text.append(from == to ? "" : "trust " + from + " " + to + ";");
            }
        }
        return Check.loaded(text.toString());
    }

    private static void distance() {
        Edge.of("Promise 16", "Returns the distance; NONE if no referrals lead from the first realm to the second one.", () -> {
            Gate line = Check.loaded(FIVE + "trust a b;trust b c;trust c d;trust d e;");
            Gate back = Check.loaded(FIVE + "trust e d;trust d c;trust c b;trust b a;");
            for (int from = 0; from < 5; from++) {
                for (int to = 0; to < 5; to++) {
                    String way = " from " + from + " to " + to;
                    Check.same("along the line" + way, line.distance(from, to), from <= to ? to - from : TicketGate.NONE);
                    Check.same("down the line" + way, back.distance(from, to), to <= from ? from - to : TicketGate.NONE);
                    Check.same("no trust" + way, full().distance(from, to), from == to ? 0 : TicketGate.NONE);
                    Check.same("all trust" + way, allTrust().distance(from, to), from == to ? 0 : 1);
                }
            }
        });
    }

    private static void nextRealm() {
        String sentence = "Returns the first realm to which a way with the fewest referrals leads, the smallest number if there "
                + "are several; "
                + "NONE if both are the same or if there is no way.";
        Edge.of("Promise 17", sentence, () -> {
            Gate several = Check.loaded(FIVE + "trust a d;trust a c;trust a b;trust b e;trust c e;trust d e;");
            Check.same("the smallest of three", several.nextRealm(0, 4), 1);
            Gate two = Check.loaded(FIVE + "trust a d;trust a c;trust a b;trust c e;trust d e;");
            Check.same("the smallest of two, not that of no way", two.nextRealm(0, 4), 2);
            Gate longer = Check.loaded(FIVE + "trust a b;trust b c;trust c e;trust a d;trust d e;");
            Check.same("not that of a longer way", longer.nextRealm(0, 4), 3);
            Gate direct = Check.loaded(FIVE + "trust a b;trust b e;trust a e;");
            Check.same("the direct one", direct.nextRealm(0, 4), 4);
            Gate line = Check.loaded(FIVE + "trust e d;trust d c;trust c b;trust b a;");
            Check.same("of the longest way", line.nextRealm(4, 0), 3);
            Check.same("of a way of one", line.nextRealm(1, 0), 0);
        });
        Edge.of("Promise 17", sentence, () -> {
            Gate ring = Check.loaded(FIVE + "trust a b;trust b a;");
            Check.same("both the same, with a way around", ring.nextRealm(0, 0), TicketGate.NONE);
            Check.same("both the same, without trust", ring.nextRealm(4, 4), TicketGate.NONE);
            Check.same("no way", ring.nextRealm(0, 4), TicketGate.NONE);
            Gate there = Check.loaded(FIVE + "trust a b;");
            Check.same("no way back", there.nextRealm(1, 0), TicketGate.NONE);
            Check.same("both the same, without a way back", there.nextRealm(0, 0), TicketGate.NONE);
        });
    }

    private static void homes() {
        Edge.of("Promise 18", "Returns the home realm.", () -> {
            Check.same("the first realm", full().homeOf(0), 0);
            Check.same("the last realm", full().homeOf(5), 4);
        });
        Edge.of("Promise 18", "Throws `IndexOutOfBoundsException` if the user does not exist", () -> userOrServiceExists(Gate::homeOf));
    }

    private static void cheeses() {
        Edge.of("Promise 19", "Returns the number of cheeses of the user.", () -> {
            Gate gate = Check.loaded("gate 0 0;realm a 999 0 even;user v a 7 even;user u a 7 even;service s a 99;login u 7;request 0 s;");
            Check.same("none at first", gate.cheesesOf(1), 0);
            for (int cheeses = 1; cheeses <= 99; cheeses++) {
                gate.cheese(1);
                gate.pass(1);
                Check.same("one more", gate.cheesesOf(1), cheeses);
            }
            Check.same("none is left", gate.cheesesLeft(0), 0);
            Check.fails("a 100th", Check.STATE, () -> gate.cheese(1));
            Check.same("the other user's", gate.cheesesOf(0), 0);
        });
        Edge.of("Promise 19", "Throws `IndexOutOfBoundsException` if the user does not exist", () -> userOrServiceExists(Gate::cheesesOf));
    }

    private static void skews() {
        Edge.of("Promise 20", "Returns the skew.", () -> {
            Check.same("the least", full().skew(1, 1), 0);
            Check.same("the greatest", full().skew(1, 0), 18);
            Check.same("the greatest, the other way", full().skew(2, 1), 18);
            Check.same("of the last ones", full().skew(5, 4), 0);
            Gate gate = full();
            gate.pass(999);
            Check.same("time does not matter", gate.skew(1, 0), 18);
        });
        String sentence = "Throws `IndexOutOfBoundsException` if the user or the realm does not exist";
        Edge.of("Promise 20", sentence, () -> userOrServiceExists((gate, user) -> gate.skew(user, 0)));
        Edge.of("Promise 20", sentence, () -> realmExists((gate, realm) -> gate.skew(0, realm)));
        Edge.of("Promise 20", sentence, () -> {
            Supplier<Gate> noUsers = () -> Check.loaded(FIVE);
            Bounds.counted(noUsers, 0, Check.INDEX, (gate, number) -> gate.skew(number, 4));
        });
    }

    private static void services() {
        Edge.of("Promise 21", "Returns the realm of the service.", () -> {
            Check.same("the first realm", full().realmOfService(0), 0);
            Check.same("the last realm", full().realmOfService(4), 4);
            Check.same("of the last service", full().realmOfService(5), 3);
        });
        Edge.of("Promise 21", "Throws `IndexOutOfBoundsException` if the service does not exist",
            () -> userOrServiceExists(Gate::realmOfService));
        Edge.of("Promise 22", "Returns the number of cheeses of the service.", () -> {
            Check.same("the least", full().cheesesLeft(0), 0);
            Check.same("the greatest", full().cheesesLeft(1), 99);
            Gate gate = new Gate();
            gate.cheese(4);
            Check.same("one less", gate.cheesesLeft(0), 1);
            gate.undo();
            Check.same("and back", gate.cheesesLeft(0), 2);
        });
        Edge.of("Promise 22", "Throws `IndexOutOfBoundsException` if the service does not exist",
            () -> userOrServiceExists(Gate::cheesesLeft));
    }
}
