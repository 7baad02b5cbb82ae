/** Promise 1 and, on the start state, the questions of the promises 7 to 35. */
public final class StartTest {
    public static void main(String[] args) {
        start();
        realms();
        users();
        services();
        tickets();
        noSuch();
        Check.end();
    }

    private static void start() {
        Gate gate = new Gate();
        Check.same("time", gate.time(), 6);
        Check.same("seed", gate.seed(), 852);
        Check.same("realms", gate.realmCount(), 3);
        Check.same("users", gate.userCount(), 2);
        Check.same("services", gate.serviceCount(), 2);
        Check.same("tickets", gate.ticketCount(), 5);
        Check.same("uses", gate.useCount(), 1);
        Check.same("error", gate.errorCode(), 0);
        Check.same("error position", gate.errorPosition(), TicketGate.NONE);
        Check.same("input length", gate.truncateInput(0), 0);
        Check.fails("no input", Check.ARGUMENT, () -> gate.truncateInput(1));
        Check.fails("no output", Check.ELEMENT, () -> gate.outputByte(0));
        Check.fails("no slot 0", Check.STATE, () -> gate.restore(0));
        Check.fails("no slot 1", Check.STATE, () -> gate.restore(1));
        Check.fails("no undo", Check.STATE, () -> gate.undo());
        Gate text = Check.loaded("gate 2 5;realm alp 60 300 even;realm bay 40 90 fast 2;realm cob 30 20 slow 3;"
                + "trust alp bay;trust bay cob;trust cob alp;user ann alp 11 slow 1;user ben bay 22 fast 4;"
                + "service brie bay 3;service goat alp 1;login ann 11 renewable;refer 0 bay;pass 5;request 0 goat;"
                + "login ben 22;request 3 brie;cheese 4;pass 1;");
        Check.same("the text's state", Check.picture(gate), Check.picture(text));
        Gate other = new Gate();
        other.pass(9);
        Check.same("objects share nothing", Check.picture(gate), Check.picture(new Gate()));
    }

    private static void realms() {
        Gate gate = new Gate();
        int[] lifetimes = {60, 40, 30};
        int[] clocks = {6, 8, 3};
        for (int realm = 0; realm < 3; realm++) {
            Check.same("lifetime " + realm, gate.lifetimeOf(realm), lifetimes[realm]);
            Check.same("clock " + realm, gate.clockOf(realm), clocks[realm]);
            for (int to = 0; to < 3; to++) {
                int steps = (to - realm + 3) % 3;
                String way = " " + realm + " to " + to;
                Check.same("trust" + way, gate.trusts(realm, to), steps == 1);
                Check.same("distance" + way, gate.distance(realm, to), steps);
                Check.same("next" + way, gate.nextRealm(realm, to), steps == 0 ? -1 : (realm + 1) % 3);
            }
        }
        Check.same("alp", Check.find(gate, "alp"), 0);
        Check.same("bay", Check.find(gate, "bay"), 1);
        Check.same("cob", Check.find(gate, "cob"), 2);
    }

    private static void users() {
        Gate gate = new Gate();
        int[][] skews = {{1, 3, 2}, {4, 2, 7}};
        for (int user = 0; user < 2; user++) {
            Check.same("home " + user, gate.homeOf(user), user);
            Check.same("cheeses " + user, gate.cheesesOf(user), user);
            for (int realm = 0; realm < 3; realm++) {
                Check.same("skew " + user + " " + realm, gate.skew(user, realm), skews[user][realm]);
            }
        }
        Check.same("ann", Check.find(gate, "ann"), 100);
        Check.same("ben", Check.find(gate, "ben"), 101);
    }

    private static void services() {
        Gate gate = new Gate();
        Check.same("realm of brie", gate.realmOfService(0), 1);
        Check.same("realm of goat", gate.realmOfService(1), 0);
        Check.same("brie left", gate.cheesesLeft(0), 2);
        Check.same("goat left", gate.cheesesLeft(1), 1);
        Check.same("brie", Check.find(gate, "brie"), 200);
        Check.same("goat", Check.find(gate, "goat"), 201);
    }

    private static void tickets() {
        Gate gate = new Gate();
        int[][] due = { // kind, owner, realm, service, start, end, last end, key, renewable
            {0, 0, 0, -1, 0, 60, 300, 112, 1},
            {0, 0, 1, -1, 0, 40, 90, 311, 1},
            {1, 0, 0, 1, 5, 60, 300, 394, 1},
            {0, 1, 1, -1, 5, 45, 45, 89, 0},
            {1, 1, 1, 0, 5, 45, 45, 852, 0},
        };
        for (int t = 0; t < due.length; t++) {
            Check.same("number " + t, gate.ticketAt(t), t);
            Check.same("kind " + t, gate.kindOf(t), due[t][0]);
            Check.same("owner " + t, gate.ownerOf(t), due[t][1]);
            Check.same("realm " + t, gate.realmOf(t), due[t][2]);
            Check.same("service " + t, gate.serviceOf(t), due[t][3]);
            Check.same("start " + t, gate.startOf(t), due[t][4]);
            Check.same("end " + t, gate.endOf(t), due[t][5]);
            Check.same("last end " + t, gate.lastEndOf(t), due[t][6]);
            Check.same("key " + t, gate.keyOf(t), due[t][7]);
            Check.same("renewable " + t, gate.isRenewable(t), due[t][8] == 1);
            Check.same("valid " + t, gate.isValid(t), true);
            Check.same("minutes left " + t, gate.minutesLeft(t), due[t][5] - 6);
        }
    }

    private static void noSuch() {
        Gate gate = new Gate();
        for (int bad : new int[] {-1, 3, 5, Integer.MAX_VALUE, Integer.MIN_VALUE}) {
            Check.fails("lifetime " + bad, Check.INDEX, () -> gate.lifetimeOf(bad));
            Check.fails("clock " + bad, Check.INDEX, () -> gate.clockOf(bad));
            Check.fails("trust from " + bad, Check.INDEX, () -> gate.trusts(bad, 0));
            Check.fails("trust to " + bad, Check.INDEX, () -> gate.trusts(0, bad));
            Check.fails("distance from " + bad, Check.INDEX, () -> gate.distance(bad, 0));
            Check.fails("distance to " + bad, Check.INDEX, () -> gate.distance(0, bad));
            Check.fails("next from " + bad, Check.INDEX, () -> gate.nextRealm(bad, 0));
            Check.fails("next to " + bad, Check.INDEX, () -> gate.nextRealm(0, bad));
            Check.fails("skew to " + bad, Check.INDEX, () -> gate.skew(0, bad));
        }
        for (int bad : new int[] {-1, 2, 6, Integer.MAX_VALUE, Integer.MIN_VALUE}) {
            Check.fails("home " + bad, Check.INDEX, () -> gate.homeOf(bad));
            Check.fails("cheeses " + bad, Check.INDEX, () -> gate.cheesesOf(bad));
            Check.fails("skew of " + bad, Check.INDEX, () -> gate.skew(bad, 0));
            Check.fails("realm of service " + bad, Check.INDEX, () -> gate.realmOfService(bad));
            Check.fails("cheeses left " + bad, Check.INDEX, () -> gate.cheesesLeft(bad));
        }
        for (int bad : new int[] {-1, 5, 24, Integer.MAX_VALUE, Integer.MIN_VALUE}) {
            Check.fails("ticket at " + bad, Check.INDEX, () -> gate.ticketAt(bad));
            Check.fails("kind " + bad, Check.ELEMENT, () -> gate.kindOf(bad));
            Check.fails("owner " + bad, Check.ELEMENT, () -> gate.ownerOf(bad));
            Check.fails("realm " + bad, Check.ELEMENT, () -> gate.realmOf(bad));
            Check.fails("service " + bad, Check.ELEMENT, () -> gate.serviceOf(bad));
            Check.fails("start " + bad, Check.ELEMENT, () -> gate.startOf(bad));
            Check.fails("end " + bad, Check.ELEMENT, () -> gate.endOf(bad));
            Check.fails("last end " + bad, Check.ELEMENT, () -> gate.lastEndOf(bad));
            Check.fails("key " + bad, Check.ELEMENT, () -> gate.keyOf(bad));
            Check.fails("renewable " + bad, Check.ELEMENT, () -> gate.isRenewable(bad));
            Check.fails("valid " + bad, Check.ELEMENT, () -> gate.isValid(bad));
            Check.fails("minutes left " + bad, Check.ELEMENT, () -> gate.minutesLeft(bad));
        }
    }
}
