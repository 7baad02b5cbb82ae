import java.util.ArrayList;
import java.util.Collections;
import java.util.HashMap;
import java.util.LinkedList;
import java.util.List;
import java.util.Map;
import java.util.NoSuchElementException;
import java.util.regex.Matcher;
import java.util.regex.Pattern;

/**
 * The document once more, written in another way: with names in maps, objects in lists and a copy of
 * all for each undo. It bears the names of the face, so that a driver can ask both the same.
 */
public final class Model {
    private static final class Stop extends RuntimeException {
        private static final long serialVersionUID = 1L;
        final int code;
        final int at;

        Stop(int code, int at) {
            this.code = code;
            this.at = at;
        }
    }

    private record Token(String text, int at) {
        boolean isWord() {
            return text.matches("[a-z]+");
        }

        boolean isNumber() {
            return text.matches("[0-9]+");
        }

        long number() {
            String digits = text.replaceFirst("^0+", "");
            return digits.length() > 9 ? 1000000000L : digits.isEmpty() ? 0 : Long.parseLong(digits);
        }
    }

    private record Use(int user, int service, int shown, int at) {
    }

    private static final class Ticket implements Cloneable {
        int number, owner, realm, service = -1, start, end, last, key;
        boolean renewable;

        Ticket copy() {
            try {
                return (Ticket) clone();
            } catch (CloneNotSupportedException e) {
                throw new AssertionError(e);
            }
        }
    }

    /** Everything in lists of arrays: realm {life, renewal, offset}, user {home, password, offset, cheeses}. */
    private static final class World {
        int time, tolerance, seed, made, total;
        List<String> realmNames = new ArrayList<>(), userNames = new ArrayList<>(), serviceNames = new ArrayList<>();
        List<int[]> realms = new ArrayList<>(), users = new ArrayList<>(), services = new ArrayList<>();
        List<String> trust = new ArrayList<>();
        List<Ticket> tickets = new ArrayList<>();
        List<Use> uses = new ArrayList<>();

        World copy() {
            World w = new World();
            w.time = time;
            w.tolerance = tolerance;
            w.seed = seed;
            w.made = made;
            w.total = total;
            w.realmNames.addAll(realmNames);
            w.userNames.addAll(userNames);
            w.serviceNames.addAll(serviceNames);
            realms.forEach(r -> w.realms.add(r.clone()));
            users.forEach(r -> w.users.add(r.clone()));
            services.forEach(r -> w.services.add(r.clone()));
            w.trust.addAll(trust);
            tickets.forEach(t -> w.tickets.add(t.copy()));
            w.uses.addAll(uses);
            return w;
        }

        Ticket find(long number) {
            return tickets.stream().filter(t -> t.number == number).findFirst().orElse(null);
        }

        List<Use> known(int then) {
            List<Use> all = new ArrayList<>(uses);
            all.removeIf(u -> then - u.at > tolerance);
            return all.subList(Math.max(0, all.size() - 30), all.size());
        }

        int skew(int user, int realm) {
            return Math.abs(users.get(user)[2] - realms.get(realm)[2]);
        }

        int login(int user, int password) {
            return users.get(user)[1] != password ? 1 : skew(user, users.get(user)[0]) > tolerance ? 2
                    : tickets.size() == 24 ? 3 : 0;
        }

        int refer(Ticket t, int realm) {
            return t.service != -1 ? 1 : t.end <= time ? 2 : !trust.contains(t.realm + ">" + realm) ? 3
                    : skew(t.owner, t.realm) > tolerance ? 4 : tickets.size() == 24 ? 5 : 0;
        }

        int request(Ticket t, int service) {
            return t.service != -1 ? 1 : t.end <= time ? 2 : t.realm != services.get(service)[0] ? 3
                    : skew(t.owner, t.realm) > tolerance ? 4 : tickets.size() == 24 ? 5 : 0;
        }

        int newEnd(Ticket t) {
            return Math.min(time + realms.get(t.realm)[0], t.last);
        }

        int renew(Ticket t) {
            return !t.renewable ? 1 : t.end <= time ? 2 : newEnd(t) <= t.end ? 3 : 0;
        }

        int cheese(Ticket t, int later) {
            if (t.service == -1) {
                return 1;
            }
            int then = time + later;
            int shown = then + users.get(t.owner)[2];
            boolean again = known(then).stream().anyMatch(u -> u.user == t.owner && u.service == t.service && u.shown == shown);
            return t.end <= then ? 2 : skew(t.owner, t.realm) > tolerance ? 3 : again ? 4
                    : services.get(t.service)[1] == 0 ? 5 : 0;
        }

        int key() {
            seed = (21 * seed + 7) % 1024;
            return seed;
        }

        Ticket make(int owner, int realm, int service, boolean renewable, Ticket old) {
            Ticket t = new Ticket();
            t.number = made++;
            t.owner = owner;
            t.realm = realm;
            t.service = service;
            t.start = time;
            t.end = time + realms.get(realm)[0];
            t.last = time + realms.get(realm)[1];
            if (old != null) {
                t.end = Math.min(t.end, old.end);
                t.last = Math.min(t.last, old.last);
            }
            t.last = renewable && t.last > t.end ? t.last : t.end;
            t.renewable = renewable;
            t.key = key();
            tickets.add(t);
            return t;
        }

        void give(Ticket t) {
            services.get(t.service)[1]--;
            users.get(t.owner)[3]++;
            uses.add(new Use(t.owner, t.service, time + users.get(t.owner)[2], time));
        }

        int hops(int from, int to) {
            Map<Integer, Integer> far = new HashMap<>();
            LinkedList<Integer> queue = new LinkedList<>(List.of(from));
            far.put(from, 0);
            while (!queue.isEmpty()) {
                int here = queue.removeFirst();
                for (int next = 0; next < realms.size(); next++) {
                    if (trust.contains(here + ">" + next) && !far.containsKey(next)) {
                        far.put(next, far.get(here) + 1);
                        queue.add(next);
                    }
                }
            }
            return far.getOrDefault(to, -1);
        }

        /** Runs the text; throws Stop at the first token that has an error. */
        void run(String text) {
            LinkedList<Token> tokens = new LinkedList<>();
            Matcher matcher = Pattern.compile("[a-z]+|[0-9]+|[^ \n]", Pattern.DOTALL).matcher(text);
            while (matcher.find()) {
                tokens.add(new Token(matcher.group(), matcher.start()));
            }
            tokens.add(new Token("", text.length()));
            Token first = tokens.removeFirst();
            check(first.text.equals("gate"), 1, first);
            tolerance = (int) number(tokens, 0, 9);
            seed = (int) number(tokens, 0, 1023);
            semicolon(tokens, true);
            while (tokens.size() > 1) {
                statement(tokens.removeFirst(), tokens);
            }
        }

        private void statement(Token word, LinkedList<Token> tokens) {
            switch (word.text) {
                case "realm" -> {
                    check(realms.size() < 5, 5, word);
                    String name = fresh(tokens);
                    int[] realm = {(int) number(tokens, 1, 999), (int) number(tokens, 0, 9999), clock(tokens)};
                    semicolon(tokens, true);
                    realmNames.add(name);
                    realms.add(realm);
                }
                case "trust" -> {
                    int from = old(tokens, realmNames, -1);
                    int to = old(tokens, realmNames, from);
                    semicolon(tokens, !trust.contains(from + ">" + to));
                    trust.add(from + ">" + to);
                }
                case "user" -> {
                    check(users.size() < 6, 5, word);
                    String name = fresh(tokens);
                    int[] user = {old(tokens, realmNames, -1), (int) number(tokens, 0, 9999), clock(tokens), 0};
                    semicolon(tokens, true);
                    userNames.add(name);
                    users.add(user);
                }
                case "service" -> {
                    check(services.size() < 6, 5, word);
                    String name = fresh(tokens);
                    int[] service = {old(tokens, realmNames, -1), (int) number(tokens, 0, 99)};
                    semicolon(tokens, true);
                    serviceNames.add(name);
                    services.add(service);
                    total += service[1];
                }
                case "login" -> {
                    int user = old(tokens, userNames, -1);
                    int password = (int) number(tokens, 0, 9999);
                    boolean renewable = tokens.getFirst().text.equals("renewable");
                    if (renewable) {
                        tokens.removeFirst();
                    }
                    semicolon(tokens, login(user, password) == 0);
                    make(user, users.get(user)[0], -1, renewable, null);
                }
                case "refer" -> {
                    Ticket t = ticket(tokens);
                    int realm = old(tokens, realmNames, -1);
                    semicolon(tokens, refer(t, realm) == 0);
                    make(t.owner, realm, -1, t.renewable, t);
                }
                case "request" -> {
                    Ticket t = ticket(tokens);
                    int service = old(tokens, serviceNames, -1);
                    semicolon(tokens, request(t, service) == 0);
                    make(t.owner, t.realm, service, t.renewable, t);
                }
                case "renew" -> {
                    Ticket t = ticket(tokens);
                    semicolon(tokens, renew(t) == 0);
                    t.end = newEnd(t);
                    t.key = key();
                }
                case "cheese" -> {
                    Ticket t = ticket(tokens);
                    semicolon(tokens, cheese(t, 0) == 0);
                    give(t);
                }
                case "drop" -> {
                    Ticket t = ticket(tokens);
                    semicolon(tokens, true);
                    tickets.remove(t);
                }
                case "sweep" -> {
                    semicolon(tokens, true);
                    tickets.removeIf(t -> t.end <= time);
                }
                case "pass" -> {
                    int minutes = (int) number(tokens, 0, 999);
                    semicolon(tokens, true);
                    time += minutes;
                }
                default -> throw new Stop(1, word.at);
            }
        }

        private static void check(boolean good, int code, Token token) {
            if (!good) {
                throw new Stop(code, token.at);
            }
        }

        private static long number(LinkedList<Token> tokens, int least, int most) {
            Token token = tokens.removeFirst();
            check(token.isNumber(), 1, token);
            check(token.number() >= least && token.number() <= most, 2, token);
            return token.number();
        }

        private static void semicolon(LinkedList<Token> tokens, boolean allowed) {
            Token token = tokens.removeFirst();
            check(token.text.equals(";"), 1, token);
            check(allowed, 6, token);
        }

        private String fresh(LinkedList<Token> tokens) {
            Token token = tokens.removeFirst();
            check(token.isWord(), 1, token);
            check(token.text.length() <= 4, 2, token);
            boolean taken = realmNames.contains(token.text) || userNames.contains(token.text) || serviceNames.contains(token.text);
            check(!taken, 3, token);
            return token.text;
        }

        private static int old(LinkedList<Token> tokens, List<String> names, int not) {
            Token token = tokens.removeFirst();
            check(token.isWord(), 1, token);
            int found = names.indexOf(token.text);
            check(found == -1 || found != not, 3, token);
            check(found != -1, 4, token);
            return found;
        }

        private Ticket ticket(LinkedList<Token> tokens) {
            Token token = tokens.removeFirst();
            check(token.isNumber(), 1, token);
            Ticket t = find(token.number());
            check(t != null, 4, token);
            return t;
        }

        private static int clock(LinkedList<Token> tokens) {
            Token token = tokens.removeFirst();
            check(List.of("even", "fast", "slow").contains(token.text), 1, token);
            if (token.text.equals("even")) {
                return 0;
            }
            int offset = (int) number(tokens, 1, 9);
            return token.text.equals("fast") ? offset : -offset;
        }
    }

    private World w = new World();
    private final StringBuilder input = new StringBuilder();
    private String output = "";
    private int errorCode = 0;
    private int errorAt = -1;
    private final World[] slots = new World[2];
    private final LinkedList<World> past = new LinkedList<>();

    public Model() {
        w.run("gate 2 5;realm alp 60 300 even;realm bay 40 90 fast 2;realm cob 30 20 slow 3;trust alp bay;trust bay cob;"
                + "trust cob alp;user ann alp 11 slow 1;user ben bay 22 fast 4;service brie bay 3;service goat alp 1;"
                + "login ann 11 renewable;refer 0 bay;pass 5;request 0 goat;login ben 22;request 3 brie;cheese 4;pass 1;");
    }

    private void keep() {
        past.add(w.copy());
        if (past.size() > 8) {
            past.removeFirst();
        }
    }

    private static void index(int i, int size) {
        if (i < 0 || i >= size) {
            throw new IndexOutOfBoundsException();
        }
    }

    private static void range(int i, int least, int most) {
        if (i < least || i > most) {
            throw new IllegalArgumentException();
        }
    }

    private static void allowed(boolean good) {
        if (!good) {
            throw new IllegalStateException();
        }
    }

    private int[] realm(int r) {
        index(r, w.realms.size());
        return w.realms.get(r);
    }

    private int[] user(int u) {
        index(u, w.users.size());
        return w.users.get(u);
    }

    private int[] service(int s) {
        index(s, w.services.size());
        return w.services.get(s);
    }

    private Ticket ticket(int t) {
        Ticket found = w.find(t);
        if (found == null) {
            throw new NoSuchElementException();
        }
        return found;
    }

    public int appendInput(int a, int b, int c, int d, int e) {
        allowed(input.length() <= 580);
        for (int four : new int[] {a, b, c, d, e}) {
            for (int shift = 24; shift >= 0; shift -= 8) {
                input.append((char) (four >> shift & 255));
            }
        }
        return input.length();
    }

    public int truncateInput(int length) {
        range(length, 0, input.length());
        input.setLength(length);
        return length;
    }

    public int load() {
        World next = new World();
        String text = input.toString();
        input.setLength(0);
        try {
            next.run(text);
        } catch (Stop stop) {
            errorCode = stop.code;
            errorAt = stop.at;
            throw new IllegalArgumentException();
        }
        errorCode = 0;
        errorAt = -1;
        keep();
        w = next;
        return w.tickets.size();
    }

    public int errorCode() { return errorCode; }
    public int errorPosition() { return errorAt; }
    public int time() { return w.time; }
    public int seed() { return w.seed; }
    public int realmCount() { return w.realms.size(); }
    public int userCount() { return w.users.size(); }
    public int serviceCount() { return w.services.size(); }

    public int findName() {
        List<List<String>> all = List.of(w.realmNames, w.userNames, w.serviceNames);
        for (int kind = 0; kind < 3; kind++) {
            if (all.get(kind).contains(input.toString())) {
                return 100 * kind + all.get(kind).indexOf(input.toString());
            }
        }
        return -1;
    }

    public int lifetimeOf(int r) { return realm(r)[0]; }
    public int clockOf(int r) { return w.time + realm(r)[2]; }

    public boolean trusts(int a, int b) {
        index(a, w.realms.size());
        index(b, w.realms.size());
        return w.trust.contains(a + ">" + b);
    }

    public int distance(int a, int b) {
        trusts(a, b);
        return w.hops(a, b);
    }

    public int nextRealm(int a, int b) {
        int way = distance(a, b);
        for (int r = 0; r < w.realms.size(); r++) {
            if (way > 0 && trusts(a, r) && w.hops(r, b) == way - 1) {
                return r;
            }
        }
        return -1;
    }

    public int homeOf(int u) { return user(u)[0]; }
    public int cheesesOf(int u) { return user(u)[3]; }

    public int skew(int u, int r) {
        return Math.abs(user(u)[2] - realm(r)[2]);
    }

    public int realmOfService(int s) { return service(s)[0]; }
    public int cheesesLeft(int s) { return service(s)[1]; }
    public int ticketCount() { return w.tickets.size(); }

    public int ticketAt(int i) {
        index(i, w.tickets.size());
        List<Integer> numbers = new ArrayList<>();
        w.tickets.forEach(t -> numbers.add(t.number));
        Collections.sort(numbers);
        return numbers.get(i);
    }

    public int kindOf(int t) { return ticket(t).service == -1 ? 0 : 1; }
    public int ownerOf(int t) { return ticket(t).owner; }
    public int realmOf(int t) { return ticket(t).realm; }
    public int serviceOf(int t) { return ticket(t).service; }
    public int startOf(int t) { return ticket(t).start; }
    public int endOf(int t) { return ticket(t).end; }
    public int lastEndOf(int t) { return ticket(t).last; }
    public int keyOf(int t) { return ticket(t).key; }
    public boolean isRenewable(int t) { return ticket(t).renewable; }
    public boolean isValid(int t) { return ticket(t).end > w.time; }
    public int minutesLeft(int t) { return isValid(t) ? ticket(t).end - w.time : 0; }

    public int loginRefusal(int u, int password) {
        user(u);
        range(password, 0, 9999);
        return w.login(u, password);
    }

    public int referRefusal(int t, int r) {
        Ticket ticket = ticket(t);
        realm(r);
        return w.refer(ticket, r);
    }

    public int requestRefusal(int t, int s) {
        Ticket ticket = ticket(t);
        service(s);
        return w.request(ticket, s);
    }

    public int renewRefusal(int t) { return w.renew(ticket(t)); }
    public int cheeseRefusal(int t) { return w.cheese(ticket(t), 0); }
    public int validTickets() { return validAfter(0); }

    public int validAfter(int minutes) {
        range(minutes, 0, 999);
        return (int) w.tickets.stream().filter(t -> t.end > w.time + minutes).count();
    }

    public int minutesUntilCheese(int t) {
        Ticket ticket = ticket(t);
        int minutes = 0;
        while (minutes <= 20 && w.cheese(ticket, minutes) != 0) {
            minutes++;
        }
        return minutes > 20 ? -1 : minutes;
    }

    public int bestTicket(int u, int s) {
        user(u);
        service(s);
        Ticket best = null;
        for (Ticket t : w.tickets) {
            boolean fits = t.owner == u && t.service == s && t.end > w.time;
            best = fits && (best == null || t.end > best.end) ? t : best;
        }
        return best == null ? -1 : best.number;
    }

    public int useCount() { return w.known(w.time).size(); }

    public int cheeseDifference() {
        return w.total - w.services.stream().mapToInt(s -> s[1]).sum() - w.users.stream().mapToInt(u -> u[3]).sum();
    }

    public int lifeErrors() { return 0; }
    public int distanceErrors() { return 0; }

    public float validShare() {
        return w.tickets.isEmpty() ? 0f : (float) validTickets() / (float) w.tickets.size();
    }

    public double averageLife() {
        int sum = w.tickets.stream().mapToInt(t -> t.end - t.start).sum();
        return w.tickets.isEmpty() ? 0.0 : (double) sum / (double) w.tickets.size();
    }

    public int login(int u, int password, boolean renewable) {
        allowed(loginRefusal(u, password) == 0);
        keep();
        return w.make(u, user(u)[0], -1, renewable, null).number;
    }

    public int refer(int t, int r) {
        allowed(referRefusal(t, r) == 0);
        keep();
        return w.make(ticket(t).owner, r, -1, ticket(t).renewable, ticket(t)).number;
    }

    public int request(int t, int s) {
        allowed(requestRefusal(t, s) == 0);
        keep();
        return w.make(ticket(t).owner, ticket(t).realm, s, ticket(t).renewable, ticket(t)).number;
    }

    public int renew(int t) {
        allowed(renewRefusal(t) == 0);
        keep();
        ticket(t).end = w.newEnd(ticket(t));
        ticket(t).key = w.key();
        return ticket(t).end;
    }

    public int cheese(int t) {
        allowed(cheeseRefusal(t) == 0);
        keep();
        w.give(ticket(t));
        return user(ticket(t).owner)[3];
    }

    public int drop(int t) {
        ticket(t);
        keep();
        w.tickets.remove(ticket(t));
        return w.tickets.size();
    }

    public int sweep() {
        keep();
        int before = w.tickets.size();
        w.tickets.removeIf(t -> t.end <= w.time);
        return before - w.tickets.size();
    }

    public int setPassword(int u, int password) {
        user(u);
        range(password, 0, 9999);
        keep();
        int former = user(u)[1];
        user(u)[1] = password;
        return former;
    }

    public int setClock(int u, int offset) {
        user(u);
        range(offset, -9, 9);
        keep();
        int former = user(u)[2];
        user(u)[2] = offset;
        return former;
    }

    public int pass(int minutes) {
        range(minutes, 1, 999);
        keep();
        int before = validTickets();
        w.time += minutes;
        return before - validTickets();
    }

    public int writeTicket(int t) {
        Ticket x = ticket(t);
        output = x.number + ":" + w.userNames.get(x.owner) + "@" + w.realmNames.get(x.realm)
                + (x.service == -1 ? "" : "/" + w.serviceNames.get(x.service)) + " " + x.end + (x.renewable ? "+" : "");
        return output.length();
    }

    public int outputByte(int position) {
        if (position < 0 || position >= output.length()) {
            throw new NoSuchElementException();
        }
        return output.charAt(position);
    }

    public int save(int slot) {
        index(slot, 2);
        slots[slot] = w.copy();
        return w.time;
    }

    public int restore(int slot) {
        index(slot, 2);
        allowed(slots[slot] != null);
        keep();
        w = slots[slot].copy();
        return w.time;
    }

    public int undo() {
        allowed(!past.isEmpty());
        w = past.removeLast();
        return past.size();
    }
}
