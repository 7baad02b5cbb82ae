import java.util.ArrayList;
import java.util.List;
import java.util.function.Function;

/**
 * A TicketGate as the tests use it: for at most 512 calls, because what later ones answer is free. It keeps its calls,
 * so that a twin for which the same calls were made can be asked instead.
 */
final class Gate {
    private static final int MAX_CALLS = 512;

    private final TicketGate gate = new TicketGate();
    private final List<Function<TicketGate, ?>> calls = new ArrayList<>();

    /** Another gate for which the same calls have been made. */
    Gate twin() {
        Gate twin = new Gate();
        for (Function<TicketGate, ?> call : calls) {
            Check.answer(() -> twin.made(call));
        }
        return twin;
    }

    int callsLeft() {
        return MAX_CALLS - calls.size();
    }

    private <T> T made(Function<TicketGate, T> call) {
        if (calls.size() == MAX_CALLS) {
            throw new AssertionError("a test asks for what a 513th call answers");
        }
        calls.add(call);
        return call.apply(gate);
    }

    int appendInput(int a, int b, int c, int d, int e) {
        return made(gate -> gate.appendInput(a, b, c, d, e));
    }

    int truncateInput(int length) {
        return made(gate -> gate.truncateInput(length));
    }

    int load() {
        return made(TicketGate::load);
    }

    int errorCode() {
        return made(TicketGate::errorCode);
    }

    int errorPosition() {
        return made(TicketGate::errorPosition);
    }

    int time() {
        return made(TicketGate::time);
    }

    int seed() {
        return made(TicketGate::seed);
    }

    int realmCount() {
        return made(TicketGate::realmCount);
    }

    int userCount() {
        return made(TicketGate::userCount);
    }

    int serviceCount() {
        return made(TicketGate::serviceCount);
    }

    int findName() {
        return made(TicketGate::findName);
    }

    int lifetimeOf(int realm) {
        return made(gate -> gate.lifetimeOf(realm));
    }

    int clockOf(int realm) {
        return made(gate -> gate.clockOf(realm));
    }

    boolean trusts(int from, int to) {
        return made(gate -> gate.trusts(from, to));
    }

    int distance(int from, int to) {
        return made(gate -> gate.distance(from, to));
    }

    int nextRealm(int from, int to) {
        return made(gate -> gate.nextRealm(from, to));
    }

    int homeOf(int user) {
        return made(gate -> gate.homeOf(user));
    }

    int cheesesOf(int user) {
        return made(gate -> gate.cheesesOf(user));
    }

    int skew(int user, int realm) {
        return made(gate -> gate.skew(user, realm));
    }

    int realmOfService(int service) {
        return made(gate -> gate.realmOfService(service));
    }

    int cheesesLeft(int service) {
        return made(gate -> gate.cheesesLeft(service));
    }

    int ticketCount() {
        return made(TicketGate::ticketCount);
    }

    int ticketAt(int index) {
        return made(gate -> gate.ticketAt(index));
    }

    int kindOf(int ticket) {
        return made(gate -> gate.kindOf(ticket));
    }

    int ownerOf(int ticket) {
        return made(gate -> gate.ownerOf(ticket));
    }

    int realmOf(int ticket) {
        return made(gate -> gate.realmOf(ticket));
    }

    int serviceOf(int ticket) {
        return made(gate -> gate.serviceOf(ticket));
    }

    int startOf(int ticket) {
        return made(gate -> gate.startOf(ticket));
    }

    int endOf(int ticket) {
        return made(gate -> gate.endOf(ticket));
    }

    int lastEndOf(int ticket) {
        return made(gate -> gate.lastEndOf(ticket));
    }

    int keyOf(int ticket) {
        return made(gate -> gate.keyOf(ticket));
    }

    boolean isRenewable(int ticket) {
        return made(gate -> gate.isRenewable(ticket));
    }

    boolean isValid(int ticket) {
        return made(gate -> gate.isValid(ticket));
    }

    int minutesLeft(int ticket) {
        return made(gate -> gate.minutesLeft(ticket));
    }

    int loginRefusal(int user, int password) {
        return made(gate -> gate.loginRefusal(user, password));
    }

    int referRefusal(int ticket, int realm) {
        return made(gate -> gate.referRefusal(ticket, realm));
    }

    int requestRefusal(int ticket, int service) {
        return made(gate -> gate.requestRefusal(ticket, service));
    }

    int renewRefusal(int ticket) {
        return made(gate -> gate.renewRefusal(ticket));
    }

    int cheeseRefusal(int ticket) {
        return made(gate -> gate.cheeseRefusal(ticket));
    }

    int validTickets() {
        return made(TicketGate::validTickets);
    }

    int validAfter(int minutes) {
        return made(gate -> gate.validAfter(minutes));
    }

    int minutesUntilCheese(int ticket) {
        return made(gate -> gate.minutesUntilCheese(ticket));
    }

    int bestTicket(int user, int service) {
        return made(gate -> gate.bestTicket(user, service));
    }

    int useCount() {
        return made(TicketGate::useCount);
    }

    int cheeseDifference() {
        return made(TicketGate::cheeseDifference);
    }

    int lifeErrors() {
        return made(TicketGate::lifeErrors);
    }

    int distanceErrors() {
        return made(TicketGate::distanceErrors);
    }

    float validShare() {
        return made(TicketGate::validShare);
    }

    double averageLife() {
        return made(TicketGate::averageLife);
    }

    int login(int user, int password, boolean renewable) {
        return made(gate -> gate.login(user, password, renewable));
    }

    int refer(int ticket, int realm) {
        return made(gate -> gate.refer(ticket, realm));
    }

    int request(int ticket, int service) {
        return made(gate -> gate.request(ticket, service));
    }

    int renew(int ticket) {
        return made(gate -> gate.renew(ticket));
    }

    int cheese(int ticket) {
        return made(gate -> gate.cheese(ticket));
    }

    int drop(int ticket) {
        return made(gate -> gate.drop(ticket));
    }

    int sweep() {
        return made(TicketGate::sweep);
    }

    int setPassword(int user, int password) {
        return made(gate -> gate.setPassword(user, password));
    }

    int setClock(int user, int offset) {
        return made(gate -> gate.setClock(user, offset));
    }

    int pass(int minutes) {
        return made(gate -> gate.pass(minutes));
    }

    int writeTicket(int ticket) {
        return made(gate -> gate.writeTicket(ticket));
    }

    int outputByte(int position) {
        return made(gate -> gate.outputByte(position));
    }

    int save(int slot) {
        return made(gate -> gate.save(slot));
    }

    int restore(int slot) {
        return made(gate -> gate.restore(slot));
    }

    int undo() {
        return made(TicketGate::undo);
    }
}
