/** The promises 9 to 22 and 48 on other texts: realms, trust and the ways along it, users, services. */
public final class RealmsTest {
    public static void main(String[] args) {
        ways();
        noWay();
        counts();
        clocks();
        Check.end();
    }

    /** Two ways of the same length from a to e, one longer way, and a way back. */
    private static void ways() {
        Gate gate = Check.loaded("gate 0 0;realm a 1 0 even;realm b 2 0 even;realm c 3 0 even;realm d 4 0 even;"
                + "realm e 5 0 even;trust a d;trust a c;trust a b;trust b c;trust c e;trust d e;trust e a;");
        int[][] distances = {{0, 1, 1, 1, 2}, {3, 0, 1, 4, 2}, {2, 3, 0, 3, 1}, {2, 3, 3, 0, 1}, {1, 2, 2, 2, 0}};
        int[][] nexts = {{-1, 1, 2, 3, 2}, {2, -1, 2, 2, 2}, {4, 4, -1, 4, 4}, {4, 4, 4, -1, 4}, {0, 0, 0, 0, -1}};
        String trusted = "ad ac ab bc ce de ea";
        for (int from = 0; from < 5; from++) {
            Check.same("lifetime " + from, gate.lifetimeOf(from), from + 1);
            for (int to = 0; to < 5; to++) {
                String way = "" + (char) ('a' + from) + (char) ('a' + to);
                Check.same("distance " + way, gate.distance(from, to), distances[from][to]);
                Check.same("next " + way, gate.nextRealm(from, to), nexts[from][to]);
                Check.same("trust " + way, gate.trusts(from, to), trusted.contains(way));
            }
        }
        Check.same("distance errors", gate.distanceErrors(), 0);
    }

    private static void noWay() {
        Gate gate = Check.loaded("gate 0 0;realm a 1 0 even;realm b 2 0 even;realm c 3 0 even;trust a b;");
        Check.same("a b", gate.distance(0, 1), 1);
        Check.same("b a", gate.distance(1, 0), TicketGate.NONE);
        Check.same("b a next", gate.nextRealm(1, 0), TicketGate.NONE);
        Check.same("a c", gate.distance(0, 2), TicketGate.NONE);
        Check.same("a c next", gate.nextRealm(0, 2), TicketGate.NONE);
        Check.same("a a next, without a way back", gate.nextRealm(0, 0), TicketGate.NONE);
        Check.same("c c", gate.distance(2, 2), 0);
        Check.same("c c next", gate.nextRealm(2, 2), TicketGate.NONE);
        Check.same("b a trust", gate.trusts(1, 0), false);
        Check.same("c c trust", gate.trusts(2, 2), false);
        Check.same("distance errors", gate.distanceErrors(), 0);
        Check.fails("no realm 3", Check.INDEX, () -> gate.distance(0, 3));
        Check.fails("no realm 3", Check.INDEX, () -> gate.nextRealm(3, 3));
        Check.fails("no realm 3", Check.INDEX, () -> gate.trusts(0, 3));
        Gate line = Check.loaded("gate 0 0;realm a 1 0 even;realm b 2 0 even;realm c 3 0 even;realm d 1 1 even;"
                + "realm e 1 1 even;trust e d;trust d c;trust c b;trust b a;");
        Check.same("the longest way", line.distance(4, 0), 4);
        Check.same("its first realm", line.nextRealm(4, 0), 3);
        Check.same("no next realm back", line.nextRealm(0, 4), TicketGate.NONE);
        Gate hub = Check.loaded("gate 0 0;realm a 1 0 even;realm b 2 0 even;realm c 3 0 even;trust a b;trust b a;");
        Check.same("to itself, and trusted by another one", hub.nextRealm(0, 0), TicketGate.NONE);
        Check.same("to one that nobody trusts", hub.nextRealm(0, 2), TicketGate.NONE);
        Check.same("no way back", line.distance(0, 4), TicketGate.NONE);
    }

    private static void counts() {
        Gate gate = new Gate();
        Check.load(gate, "gate 0 0;");
        Check.same("realms", gate.realmCount(), 0);
        Check.fails("no realm", Check.INDEX, () -> gate.lifetimeOf(0));
        Check.fails("no user", Check.INDEX, () -> gate.homeOf(0));
        Check.fails("no service", Check.INDEX, () -> gate.cheesesLeft(0));
        Check.load(gate, "gate 0 0;realm a 1 0 even;realm b 1 0 even;user u b 1 even;service s b 3;service t a 0;service v b 1;");
        Check.same("realms", gate.realmCount(), 2);
        Check.same("users", gate.userCount(), 1);
        Check.same("services", gate.serviceCount(), 3);
        Check.same("home", gate.homeOf(0), 1);
        Check.same("realm of s", gate.realmOfService(0), 1);
        Check.same("realm of t", gate.realmOfService(1), 0);
        Check.same("left in v", gate.cheesesLeft(2), 1);
        Check.same("cheeses of u", gate.cheesesOf(0), 0);
        Check.fails("no service 3", Check.INDEX, () -> gate.realmOfService(3));
        Check.fails("no user 1", Check.INDEX, () -> gate.cheesesOf(1));
    }

    private static void clocks() {
        Gate gate = Check.loaded("gate 0 0;realm a 1 0 slow 9;realm b 1 0 fast 9;realm c 1 0 even;"
                + "user u b 1 slow 9;user v b 1 fast 9;user w b 1 even;pass 4;");
        int[] offsets = {-9, 9, 0};
        for (int i = 0; i < 3; i++) {
            Check.same("clock " + i, gate.clockOf(i), 4 + offsets[i]);
            for (int user = 0; user < 3; user++) {
                Check.same("skew " + user + " " + i, gate.skew(user, i), Math.abs(offsets[user] - offsets[i]));
            }
        }
        Check.fails("no user 3", Check.INDEX, () -> gate.skew(3, 0));
        Check.fails("no realm 3", Check.INDEX, () -> gate.skew(0, 3));
    }
}
