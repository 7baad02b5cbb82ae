/** All that can be asked of a gate's state, as one text; it is asked of twins, so that the gate keeps its calls. */
final class Picture {
    private static final int MOST_CALLS_OF_A_PART = 80;
    /** A gate never tells a password, so those that the tests use are tried. */
    private static final int[] PASSWORDS = {0, 1, 2, 7, 8, 11, 22, 77, 99, 9999};

    private final Gate gate;
    private final StringBuilder text = new StringBuilder();
    private Gate asked;

    Picture(Gate gate) {
        this.gate = gate;
        this.asked = gate.twin();
    }

    String text() {
        sums();
        int realms = asked.realmCount();
        int users = asked.userCount();
        int services = asked.serviceCount();
        int tickets = asked.ticketCount();
        for (int realm = 0; realm < realms; realm++) {
            realm(realm, realms);
        }
        for (int user = 0; user < users; user++) {
            user(user, realms, services);
        }
        for (int service = 0; service < services; service++) {
            put("\nservice", asked().realmOfService(service), asked.cheesesLeft(service));
        }
        for (int index = 0; index < tickets; index++) {
            ticket(asked().ticketAt(index), realms, services);
        }
        return text.toString();
    }

    /** A twin that has calls left for the next part. */
    private Gate asked() {
        if (asked.callsLeft() < MOST_CALLS_OF_A_PART) {
            asked = gate.twin();
        }
        return asked;
    }

    private void put(String what, Object... answers) {
        text.append(what);
        for (Object answer : answers) {
            text.append(' ').append(answer);
        }
    }

    private void sums() {
        put("time", asked.time(), "seed", asked.seed(), "uses", asked.useCount(), "valid", asked.validTickets());
        put(" errors", asked.cheeseDifference(), asked.lifeErrors(), asked.distanceErrors());
        put(" share", asked.validShare(), "life", asked.averageLife());
    }

    private void realm(int realm, int realms) {
        Gate twin = asked();
        put("\nrealm", twin.lifetimeOf(realm), twin.clockOf(realm));
        for (int to = 0; to < realms; to++) {
            put(" to", twin.trusts(realm, to), twin.distance(realm, to), twin.nextRealm(realm, to));
        }
    }

    private void user(int user, int realms, int services) {
        Gate twin = asked();
        put("\nuser", twin.homeOf(user), twin.cheesesOf(user));
        for (int password : PASSWORDS) {
            put("", twin.loginRefusal(user, password));
        }
        for (int realm = 0; realm < realms; realm++) {
            put(" skew", twin.skew(user, realm));
        }
        for (int service = 0; service < services; service++) {
            put(" best", twin.bestTicket(user, service));
        }
    }

    private void ticket(int t, int realms, int services) {
        Gate twin = asked;
        put("\nticket", t, twin.kindOf(t), twin.ownerOf(t), twin.realmOf(t), twin.serviceOf(t));
        put(" life", twin.startOf(t), twin.endOf(t), twin.lastEndOf(t), twin.isValid(t), twin.minutesLeft(t));
        put(" key", twin.keyOf(t), twin.isRenewable(t));
        put(" refused", twin.renewRefusal(t), twin.cheeseRefusal(t), "wait", twin.minutesUntilCheese(t));
        for (int realm = 0; realm < realms; realm++) {
            put(" refer", twin.referRefusal(t, realm));
        }
        for (int service = 0; service < services; service++) {
            put(" request", twin.requestRefusal(t, service));
        }
    }
}
