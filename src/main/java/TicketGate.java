import java.util.NoSuchElementException;

/**
 * A gate that trades passwords for tickets and tickets for cheeses. The face checks what it is
 * given and throws; the rules live in State, the input text is read by Parser.
 */
public final class TicketGate {
    public static final int NONE = -1;
    public static final int FOR_REALM = 0, FOR_SERVICE = 1;

    private static final int MAX_INPUT = 600;
    private static final int MAX_OUTPUT = 64;
    private static final int BYTES_OF_APPEND = 20;
    private static final int MAX_REALMS = 5;
    private static final int MAX_USERS = 6;
    private static final int MAX_SERVICES = 6;
    private static final int MAX_TICKETS = 24;
    private static final int MAX_USES = 30;
    private static final int MAX_NAME = 4;
    private static final int MAX_PASSWORD = 9999;
    private static final int MAX_OFFSET = 9;
    private static final int MAX_MINUTES = 999;
    private static final int MAX_CHEESE_WAIT = 20;
    private static final int USER_CODES = 100;
    private static final int SERVICE_CODES = 200;
    private static final int SLOTS = 2;
    private static final int UNDO_LIMIT = 8;

    private final Bytes input;
    private final Bytes output;
    private final Parser parser;
    private final State state;
    private final Shelf slots;
    private final Shelf past;
    private int nextPast;
    private int pastCount;

    public TicketGate() {
        input = new Bytes(MAX_INPUT);
        output = new Bytes(MAX_OUTPUT);
        parser = new Parser(input);
        state = new State();
        slots = new Shelf(SLOTS);
        past = new Shelf(UNDO_LIMIT);
        input.addText("gate 2 5;realm alp 60 300 even;realm bay 40 90 fast 2;realm cob 30 20 slow 3;");
        input.addText("trust alp bay;trust bay cob;trust cob alp;user ann alp 11 slow 1;");
        input.addText("user ben bay 22 fast 4;service brie bay 3;service goat alp 1;");
        input.addText("login ann 11 renewable;refer 0 bay;pass 5;request 0 goat;login ben 22;");
        input.addText("request 3 brie;cheese 4;pass 1;");
        parser.run();
        state.copyFrom(parser.draft);
        input.cut(0);
    }

    // ---- the input text ----

    public int appendInput(int a, int b, int c, int d, int e) throws IllegalStateException {
        if (input.size() + BYTES_OF_APPEND > MAX_INPUT) {
            throw new IllegalStateException("the input buffer has no room");
        }
        input.addFour(a);
        input.addFour(b);
        input.addFour(c);
        input.addFour(d);
        input.addFour(e);
        return input.size();
    }

    public int truncateInput(int length) throws IllegalArgumentException {
        if (length < 0 || length > input.size()) {
            throw new IllegalArgumentException("the length is out of range");
        }
        input.cut(length);
        return length;
    }

    public int load() throws IllegalArgumentException {
        boolean good = parser.run();
        input.cut(0);
        if (!good) {
            throw new IllegalArgumentException("the text has an error");
        }
        remember();
        state.copyFrom(parser.draft);
        return state.tickets.size();
    }

    public int errorCode() {
        return parser.error;
    }

    public int errorPosition() {
        return parser.errorAt;
    }

    // ---- realms, users and services ----

    public int time() {
        return state.time;
    }

    public int seed() {
        return state.seed;
    }

    public int realmCount() {
        return state.realms.size();
    }

    public int userCount() {
        return state.users.size();
    }

    public int serviceCount() {
        return state.services.size();
    }

    public int findName() {
        return state.codeOfName(input.nameBetween(0, input.size()));
    }

    public int lifetimeOf(int realm) throws IndexOutOfBoundsException {
        checkRealm(realm);
        return state.realms.get(realm, Realms.LIFETIME);
    }

    public int clockOf(int realm) throws IndexOutOfBoundsException {
        checkRealm(realm);
        return state.time + state.realms.get(realm, Realms.OFFSET);
    }

    public boolean trusts(int from, int to) throws IndexOutOfBoundsException {
        checkRealm(from);
        checkRealm(to);
        return state.realms.hasTrust(from, to);
    }

    public int distance(int from, int to) throws IndexOutOfBoundsException {
        checkRealm(from);
        checkRealm(to);
        return state.realms.referrals(from, to);
    }

    public int nextRealm(int from, int to) throws IndexOutOfBoundsException {
        checkRealm(from);
        checkRealm(to);
        return state.realms.firstOnWay(from, to);
    }

    public int homeOf(int user) throws IndexOutOfBoundsException {
        checkUser(user);
        return state.users.get(user, Users.HOME);
    }

    public int cheesesOf(int user) throws IndexOutOfBoundsException {
        checkUser(user);
        return state.users.get(user, Users.CHEESES);
    }

    public int skew(int user, int realm) throws IndexOutOfBoundsException {
        checkUser(user);
        checkRealm(realm);
        return state.skewOf(user, realm);
    }

    public int realmOfService(int service) throws IndexOutOfBoundsException {
        checkService(service);
        return state.services.get(service, Services.REALM);
    }

    public int cheesesLeft(int service) throws IndexOutOfBoundsException {
        checkService(service);
        return state.services.get(service, Services.CHEESES);
    }

    // ---- tickets ----

    public int ticketCount() {
        return state.tickets.size();
    }

    public int ticketAt(int index) throws IndexOutOfBoundsException {
        if (!state.tickets.has(index)) {
            throw new IndexOutOfBoundsException("no such index");
        }
        return state.tickets.get(index, Tickets.NUMBER);
    }

    public int kindOf(int ticket) throws NoSuchElementException {
        return state.tickets.get(rowOf(ticket), Tickets.KIND);
    }

    public int ownerOf(int ticket) throws NoSuchElementException {
        return state.tickets.get(rowOf(ticket), Tickets.OWNER);
    }

    public int realmOf(int ticket) throws NoSuchElementException {
        return state.tickets.get(rowOf(ticket), Tickets.REALM);
    }

    public int serviceOf(int ticket) throws NoSuchElementException {
        return state.tickets.get(rowOf(ticket), Tickets.SERVICE);
    }

    public int startOf(int ticket) throws NoSuchElementException {
        return state.tickets.get(rowOf(ticket), Tickets.START);
    }

    public int endOf(int ticket) throws NoSuchElementException {
        return state.tickets.get(rowOf(ticket), Tickets.END);
    }

    public int lastEndOf(int ticket) throws NoSuchElementException {
        return state.tickets.get(rowOf(ticket), Tickets.LAST_END);
    }

    public int keyOf(int ticket) throws NoSuchElementException {
        return state.tickets.get(rowOf(ticket), Tickets.KEY);
    }

    public boolean isRenewable(int ticket) throws NoSuchElementException {
        return state.tickets.canBeRenewed(rowOf(ticket));
    }

    public boolean isValid(int ticket) throws NoSuchElementException {
        return state.tickets.isAlive(rowOf(ticket), state.time);
    }

    public int minutesLeft(int ticket) throws NoSuchElementException {
        return Math.max(0, state.tickets.get(rowOf(ticket), Tickets.END) - state.time);
    }

    // ---- what would be refused ----

    public int loginRefusal(int user, int password)
            throws IndexOutOfBoundsException, IllegalArgumentException {
        checkUser(user);
        checkPassword(password);
        return state.whyNoLogin(user, password);
    }

    public int referRefusal(int ticket, int realm)
            throws NoSuchElementException, IndexOutOfBoundsException {
        int row = rowOf(ticket);
        checkRealm(realm);
        return state.whyNoReferral(row, realm);
    }

    public int requestRefusal(int ticket, int service)
            throws NoSuchElementException, IndexOutOfBoundsException {
        int row = rowOf(ticket);
        checkService(service);
        return state.whyNoRequest(row, service);
    }

    public int renewRefusal(int ticket) throws NoSuchElementException {
        return state.whyNoRenewal(rowOf(ticket));
    }

    public int cheeseRefusal(int ticket) throws NoSuchElementException {
        return state.whyNoCheese(rowOf(ticket), 0);
    }

    // ---- counts and sums ----

    public int validTickets() {
        return state.tickets.countAlive(state.time);
    }

    public int validAfter(int minutes) throws IllegalArgumentException {
        if (minutes < 0 || minutes > MAX_MINUTES) {
            throw new IllegalArgumentException("the number of minutes is out of range");
        }
        return state.tickets.countAlive(state.time + minutes);
    }

    public int minutesUntilCheese(int ticket) throws NoSuchElementException {
        int row = rowOf(ticket);
        for (int minutes = 0; minutes <= MAX_CHEESE_WAIT; minutes++) {
            if (state.whyNoCheese(row, minutes) == 0) {
                return minutes;
            }
        }
        return NONE;
    }

    public int bestTicket(int user, int service) throws IndexOutOfBoundsException {
        checkUser(user);
        checkService(service);
        int best = state.tickets.longestAlive(user, service, state.time);
        return best == NONE ? NONE : state.tickets.get(best, Tickets.NUMBER);
    }

    public int useCount() {
        return state.uses.size();
    }

    public int cheeseDifference() {
        return state.cheesesOfText - state.services.sumOf(Services.CHEESES)
                - state.users.sumOf(Users.CHEESES);
    }

    public int lifeErrors() {
        return state.tickets.countLifeErrors();
    }

    public int distanceErrors() {
        return state.realms.countDistanceErrors();
    }

    public float validShare() {
        int count = state.tickets.size();
        return count == 0 ? 0.0f : (float) validTickets() / (float) count;
    }

    public double averageLife() {
        int count = state.tickets.size();
        int lives = state.tickets.sumOf(Tickets.END) - state.tickets.sumOf(Tickets.START);
        return count == 0 ? 0.0 : (double) lives / (double) count;
    }

    // ---- what users do ----

    public int login(int user, int password, boolean renewable)
            throws IndexOutOfBoundsException, IllegalArgumentException, IllegalStateException {
        checkUser(user);
        checkPassword(password);
        checkAllowed(state.whyNoLogin(user, password));
        remember();
        return state.makeLogin(user, renewable);
    }

    public int refer(int ticket, int realm)
            throws NoSuchElementException, IndexOutOfBoundsException, IllegalStateException {
        int row = rowOf(ticket);
        checkRealm(realm);
        checkAllowed(state.whyNoReferral(row, realm));
        remember();
        return state.makeReferral(row, realm);
    }

    public int request(int ticket, int service)
            throws NoSuchElementException, IndexOutOfBoundsException, IllegalStateException {
        int row = rowOf(ticket);
        checkService(service);
        checkAllowed(state.whyNoRequest(row, service));
        remember();
        return state.makeRequest(row, service);
    }

    public int renew(int ticket) throws NoSuchElementException, IllegalStateException {
        int row = rowOf(ticket);
        checkAllowed(state.whyNoRenewal(row));
        remember();
        return state.makeRenewal(row);
    }

    public int cheese(int ticket) throws NoSuchElementException, IllegalStateException {
        int row = rowOf(ticket);
        checkAllowed(state.whyNoCheese(row, 0));
        remember();
        return state.giveCheese(row);
    }

    public int drop(int ticket) throws NoSuchElementException {
        int row = rowOf(ticket);
        remember();
        state.tickets.removeRow(row);
        return state.tickets.size();
    }

    public int sweep() {
        remember();
        return state.tickets.removeDead(state.time);
    }

    public int setPassword(int user, int password)
            throws IndexOutOfBoundsException, IllegalArgumentException {
        checkUser(user);
        checkPassword(password);
        remember();
        int former = state.users.get(user, Users.PASSWORD);
        state.users.set(user, Users.PASSWORD, password);
        return former;
    }

    public int setClock(int user, int offset)
            throws IndexOutOfBoundsException, IllegalArgumentException {
        checkUser(user);
        if (offset < -MAX_OFFSET || offset > MAX_OFFSET) {
            throw new IllegalArgumentException("the offset is out of range");
        }
        remember();
        int former = state.users.get(user, Users.OFFSET);
        state.users.set(user, Users.OFFSET, offset);
        return former;
    }

    public int pass(int minutes) throws IllegalArgumentException {
        if (minutes < 1 || minutes > MAX_MINUTES) {
            throw new IllegalArgumentException("the number of minutes is out of range");
        }
        remember();
        int before = validTickets();
        state.letPass(minutes);
        return before - validTickets();
    }

    // ---- output, slots and undo ----

    public int writeTicket(int ticket) throws NoSuchElementException {
        int row = rowOf(ticket);
        Tickets tickets = state.tickets;
        output.cut(0);
        output.addNumber(ticket);
        output.add(':');
        output.addName(state.users.get(tickets.get(row, Tickets.OWNER), Users.NAME));
        output.add('@');
        output.addName(state.realms.get(tickets.get(row, Tickets.REALM), Realms.NAME));
        if (tickets.get(row, Tickets.KIND) == FOR_SERVICE) {
            output.add('/');
            output.addName(state.services.get(tickets.get(row, Tickets.SERVICE), Services.NAME));
        }
        output.add(' ');
        output.addNumber(tickets.get(row, Tickets.END));
        if (tickets.canBeRenewed(row)) {
            output.add('+');
        }
        return output.size();
    }

    public int outputByte(int position) throws NoSuchElementException {
        if (position < 0 || position >= output.size()) {
            throw new NoSuchElementException("the output has no such position");
        }
        return output.at(position);
    }

    public int save(int slot) throws IndexOutOfBoundsException {
        checkSlot(slot);
        slots.put(slot, state);
        return state.time;
    }

    public int restore(int slot) throws IndexOutOfBoundsException, IllegalStateException {
        checkSlot(slot);
        if (slots.isEmpty(slot)) {
            throw new IllegalStateException("the slot is empty");
        }
        remember();
        slots.copyInto(state, slot);
        return state.time;
    }

    public int undo() throws IllegalStateException {
        if (pastCount == 0) {
            throw new IllegalStateException("no call is remembered");
        }
        nextPast = (nextPast + UNDO_LIMIT - 1) % UNDO_LIMIT;
        past.copyInto(state, nextPast);
        pastCount--;
        return pastCount;
    }

    // ---- checks of the face ----

    /** Keeps the state as it is before an undoable call; the ninth takes the place of the oldest. */
    private void remember() {
        past.put(nextPast, state);
        nextPast = (nextPast + 1) % UNDO_LIMIT;
        pastCount = Math.min(UNDO_LIMIT, pastCount + 1);
    }

    private int rowOf(int ticket) {
        int row = state.tickets.rowWith(Tickets.NUMBER, ticket);
        if (row == NONE) {
            throw new NoSuchElementException("no such ticket");
        }
        return row;
    }

    private void checkRealm(int realm) {
        if (!state.realms.has(realm)) {
            throw new IndexOutOfBoundsException("no such realm");
        }
    }

    private void checkUser(int user) {
        if (!state.users.has(user)) {
            throw new IndexOutOfBoundsException("no such user");
        }
    }

    private void checkService(int service) {
        if (!state.services.has(service)) {
            throw new IndexOutOfBoundsException("no such service");
        }
    }

    private void checkSlot(int slot) {
        if (slot < 0 || slot >= SLOTS) {
            throw new IndexOutOfBoundsException("no such slot");
        }
    }

    private void checkPassword(int password) {
        if (password < 0 || password > MAX_PASSWORD) {
            throw new IllegalArgumentException("the password is out of range");
        }
    }

    private void checkAllowed(int refusal) {
        if (refusal != 0) {
            throw new IllegalStateException("refused");
        }
    }

    /** A buffer of bytes, each held as 0 to 255. */
    private static final class Bytes {
        private static final int BIGGEST_NUMBER = 100000000;
        private static final int BIGGEST_UNIT = 1000000000;

        private final int[] cells;
        private int count;

        Bytes(int limit) {
            cells = new int[Math.max(0, limit)];
        }

        int size() {
            return count;
        }

        int at(int position) {
            boolean inside = position >= 0 && position < count && position < cells.length;
            return inside ? cells[position] : NONE;
        }

        void cut(int length) {
            count = length;
        }

        void add(int sign) {
            if (count >= 0 && count < cells.length) {
                cells[count] = sign & 255;
                count++;
            }
        }

        void addFour(int bytes) {
            add(bytes >>> 24);
            add(bytes >>> 16);
            add(bytes >>> 8);
            add(bytes);
        }

        void addText(String text) {
            for (int i = 0; i < text.length(); i++) {
                add(text.charAt(i));
            }
        }

        void addName(int name) {
            for (int shift = 8 * (MAX_NAME - 1); shift >= 0; shift -= 8) {
                int letter = name >>> shift & 255;
                if (letter != 0) {
                    add(letter);
                }
            }
        }

        void addNumber(int number) {
            boolean begun = false;
            for (int unit = BIGGEST_UNIT; unit > 0; unit /= 10) {
                int digit = number / unit % 10;
                begun = begun || digit > 0 || unit == 1;
                if (begun) {
                    add('0' + digit);
                }
            }
        }

        /** Answers the first position from this one on whose byte is not between least and most. */
        int endOfRun(int from, int least, int most) {
            int end = from;
            while (end < count && at(end) >= least && at(end) <= most) {
                end++;
            }
            return end;
        }

        int endOfBlanks(int from) {
            int end = from;
            while (end < count && (at(end) == ' ' || at(end) == '\n')) {
                end++;
            }
            return end;
        }

        /**
         * Packs these bytes into one number, so that names compare as numbers; 0, which is no
         * name, if they are not 1 to 4 letters.
         */
        int nameBetween(int from, int to) {
            boolean good = to - from <= MAX_NAME;
            int name = 0;
            for (int i = from; good && i < to; i++) {
                good = at(i) >= 'a' && at(i) <= 'z';
                name = name << 8 | at(i);
            }
            return good ? name : 0;
        }

        /** Stops growing far above every range, so that a number of any length fits. */
        int numberBetween(int from, int to) {
            int number = 0;
            for (int i = from; i < to; i++) {
                number = Math.min(BIGGEST_NUMBER, 10 * number + at(i) - '0');
            }
            return number;
        }

        boolean isText(int from, int to, String text) {
            boolean same = to - from == text.length();
            for (int i = 0; same && i < text.length(); i++) {
                same = at(from + i) == text.charAt(i);
            }
            return same;
        }
    }

    /** Rows of numbers. A cell outside of the rows reads as 0, so no index can go wrong. */
    private abstract static class Table {
        private final int limit;
        private final int width;
        private final int[] cells;
        private int rows;

        Table(int limit, int width) {
            this.limit = limit;
            this.width = width;
            this.cells = new int[Math.max(0, limit * width)];
        }

        final int size() {
            return rows;
        }

        final boolean isFull() {
            return rows >= limit;
        }

        final boolean has(int row) {
            return row >= 0 && row < rows;
        }

        final int get(int row, int column) {
            int place = row * width + column;
            boolean inside = row >= 0 && row < rows && place >= 0 && place < cells.length;
            return inside ? cells[place] : 0;
        }

        final void set(int row, int column, int value) {
            int place = row * width + column;
            if (row >= 0 && row < rows && place >= 0 && place < cells.length) {
                cells[place] = value;
            }
        }

        /** Answers the new row, or NONE without room; its cells hold old values until they are set. */
        final int addRow() {
            if (rows >= limit) {
                return NONE;
            }
            rows++;
            return rows - 1;
        }

        final void removeRow(int row) {
            if (row < 0 || row >= rows) {
                return;
            }
            for (int place = row * width; place < (rows - 1) * width; place++) {
                int next = place + width;
                if (place >= 0 && place < cells.length && next >= 0 && next < cells.length) {
                    cells[place] = cells[next];
                }
            }
            rows--;
        }

        final void removeAll() {
            rows = 0;
        }

        final int rowWith(int column, int value) {
            for (int row = 0; row < rows; row++) {
                if (get(row, column) == value) {
                    return row;
                }
            }
            return NONE;
        }

        final int sumOf(int column) {
            int sum = 0;
            for (int row = 0; row < rows; row++) {
                sum += get(row, column);
            }
            return sum;
        }

        final void copyFrom(Table other) {
            int length = Math.min(cells.length, other.cells.length);
            System.arraycopy(other.cells, 0, cells, 0, length);
            rows = other.rows;
        }
    }

    private static final class Realms extends Table {
        static final int NAME = 0, LIFETIME = 1, RENEWAL = 2, OFFSET = 3, TRUSTED = 4;
        private static final int WIDTH = 5;

        Realms() {
            super(MAX_REALMS, WIDTH);
        }

        void addRealm(int name, int lifetime, int renewal, int offset) {
            int row = addRow();
            set(row, NAME, name);
            set(row, LIFETIME, lifetime);
            set(row, RENEWAL, renewal);
            set(row, OFFSET, offset);
            set(row, TRUSTED, 0);
        }

        void addTrust(int from, int to) {
            set(from, TRUSTED, get(from, TRUSTED) | 1 << to);
        }

        boolean hasTrust(int from, int to) {
            return (get(from, TRUSTED) >> to & 1) == 1;
        }

        /** Widens the set of the realms that are reached, referral by referral. */
        int referrals(int from, int to) {
            int reached = 1 << from;
            for (int steps = 0; steps < MAX_REALMS; steps++) {
                if ((reached >> to & 1) == 1) {
                    return steps;
                }
                reached = reached | trustedBySome(reached);
            }
            return NONE;
        }

        private int trustedBySome(int realms) {
            int trusted = 0;
            for (int row = 0; row < size(); row++) {
                if ((realms >> row & 1) == 1) {
                    trusted = trusted | get(row, TRUSTED);
                }
            }
            return trusted;
        }

        int firstOnWay(int from, int to) {
            int whole = referrals(from, to);
            for (int first = 0; whole > 0 && first < size(); first++) {
                if (hasTrust(from, first) && referrals(first, to) == whole - 1) {
                    return first;
                }
            }
            return NONE;
        }

        int countDistanceErrors() {
            Ways ways = new Ways();
            ways.addDirect(this);
            for (int half = 0; half < size(); half++) {
                ways.goThrough(half);
            }
            int errors = 0;
            for (int from = 0; from < size(); from++) {
                for (int to = 0; to < size(); to++) {
                    errors += ways.lengthOf(from, to) == referrals(from, to) ? 0 : 1;
                }
            }
            return errors;
        }
    }

    /** The lengths of the ways between realms once more, found by going through halfway realms. */
    private static final class Ways extends Table {
        private static final int NO_WAY = 1000;

        Ways() {
            super(MAX_REALMS, MAX_REALMS);
        }

        void addDirect(Realms realms) {
            for (int from = 0; from < realms.size(); from++) {
                addRow();
                for (int to = 0; to < realms.size(); to++) {
                    int length = realms.hasTrust(from, to) ? 1 : NO_WAY;
                    set(from, to, from == to ? 0 : length);
                }
            }
        }

        void goThrough(int half) {
            for (int from = 0; from < size(); from++) {
                for (int to = 0; to < size(); to++) {
                    int length = get(from, half) + get(half, to);
                    set(from, to, Math.min(length, get(from, to)));
                }
            }
        }

        int lengthOf(int from, int to) {
            int length = get(from, to);
            return length >= NO_WAY ? NONE : length;
        }
    }

    private static final class Users extends Table {
        static final int NAME = 0, HOME = 1, PASSWORD = 2, OFFSET = 3, CHEESES = 4;
        private static final int WIDTH = 5;

        Users() {
            super(MAX_USERS, WIDTH);
        }

        void addUser(int name, int home, int password, int offset) {
            int row = addRow();
            set(row, NAME, name);
            set(row, HOME, home);
            set(row, PASSWORD, password);
            set(row, OFFSET, offset);
            set(row, CHEESES, 0);
        }
    }

    private static final class Services extends Table {
        static final int NAME = 0, REALM = 1, CHEESES = 2;
        private static final int WIDTH = 3;

        Services() {
            super(MAX_SERVICES, WIDTH);
        }

        void addService(int name, int realm, int cheeses) {
            int row = addRow();
            set(row, NAME, name);
            set(row, REALM, realm);
            set(row, CHEESES, cheeses);
        }
    }

    /** The rows stand in the order of the numbers, because a new ticket has the greatest one. */
    private static final class Tickets extends Table {
        static final int NUMBER = 0, KIND = 1, OWNER = 2, REALM = 3, SERVICE = 4;
        static final int START = 5, END = 6, LAST_END = 7, KEY = 8, RENEWABLE = 9;
        private static final int WIDTH = 10;

        Tickets() {
            super(MAX_TICKETS, WIDTH);
        }

        boolean canBeRenewed(int row) {
            return get(row, RENEWABLE) == 1;
        }

        boolean isAlive(int row, int time) {
            return time < get(row, END);
        }

        int countAlive(int time) {
            int alive = 0;
            for (int row = 0; row < size(); row++) {
                alive += isAlive(row, time) ? 1 : 0;
            }
            return alive;
        }

        int longestAlive(int owner, int service, int time) {
            int best = NONE;
            for (int row = 0; row < size(); row++) {
                boolean fits = get(row, OWNER) == owner && get(row, SERVICE) == service;
                boolean longer = best == NONE || get(row, END) > get(best, END);
                if (fits && longer && isAlive(row, time)) {
                    best = row;
                }
            }
            return best;
        }

        int countLifeErrors() {
            int errors = 0;
            for (int row = 0; row < size(); row++) {
                int end = get(row, END);
                errors += get(row, START) >= end || end > get(row, LAST_END) ? 1 : 0;
            }
            return errors;
        }

        int removeDead(int time) {
            int before = size();
            for (int row = before - 1; row >= 0; row--) {
                if (!isAlive(row, time)) {
                    removeRow(row);
                }
            }
            return before - size();
        }
    }

    /** SHOWN is what the clock of the user showed, MADE the time of the gate at the use. */
    private static final class Uses extends Table {
        private static final int USER = 0, SERVICE = 1, SHOWN = 2, MADE = 3;
        private static final int WIDTH = 4;

        Uses() {
            super(MAX_USES, WIDTH);
        }

        void addUse(int user, int service, int shown, int time) {
            if (isFull()) {
                removeRow(0);
            }
            int row = addRow();
            set(row, USER, user);
            set(row, SERVICE, service);
            set(row, SHOWN, shown);
            set(row, MADE, time);
        }

        /** Looks only at uses made at the time since or later: a future time forgets the others. */
        boolean knows(int user, int service, int shown, int since) {
            boolean known = false;
            for (int row = 0; row < size() && !known; row++) {
                known = get(row, USER) == user && get(row, SERVICE) == service
                        && get(row, SHOWN) == shown && get(row, MADE) >= since;
            }
            return known;
        }

        void forgetBefore(int since) {
            for (int row = size() - 1; row >= 0; row--) {
                if (get(row, MADE) < since) {
                    removeRow(row);
                }
            }
        }
    }

    /** All that undo and the slots keep, with the rules of the document's section 3. */
    private static final class State {
        private static final int NO_LIMIT = 2147483647;
        private static final int SEED_FACTOR = 21, SEED_STEP = 7, SEED_LIMIT = 1024;

        private final Realms realms = new Realms();
        private final Users users = new Users();
        private final Services services = new Services();
        private final Tickets tickets = new Tickets();
        private final Uses uses = new Uses();
        private int time;
        private int tolerance;
        private int seed;
        private int madeTickets;
        private int cheesesOfText;

        void begin(int newTolerance, int newSeed) {
            realms.removeAll();
            users.removeAll();
            services.removeAll();
            tickets.removeAll();
            uses.removeAll();
            time = 0;
            tolerance = newTolerance;
            seed = newSeed;
            madeTickets = 0;
            cheesesOfText = 0;
        }

        void copyFrom(State other) {
            realms.copyFrom(other.realms);
            users.copyFrom(other.users);
            services.copyFrom(other.services);
            tickets.copyFrom(other.tickets);
            uses.copyFrom(other.uses);
            time = other.time;
            tolerance = other.tolerance;
            seed = other.seed;
            madeTickets = other.madeTickets;
            cheesesOfText = other.cheesesOfText;
        }

        int codeOfName(int name) {
            int realm = realms.rowWith(Realms.NAME, name);
            int user = users.rowWith(Users.NAME, name);
            int service = services.rowWith(Services.NAME, name);
            if (realm != NONE) {
                return realm;
            }
            if (user != NONE) {
                return USER_CODES + user;
            }
            return service == NONE ? NONE : SERVICE_CODES + service;
        }

        int skewOf(int user, int realm) {
            return Math.abs(users.get(user, Users.OFFSET) - realms.get(realm, Realms.OFFSET));
        }

        private boolean isSkewed(int row) {
            int owner = tickets.get(row, Tickets.OWNER);
            return skewOf(owner, tickets.get(row, Tickets.REALM)) > tolerance;
        }

        int whyNoLogin(int user, int password) {
            if (users.get(user, Users.PASSWORD) != password) {
                return 1;
            }
            if (skewOf(user, users.get(user, Users.HOME)) > tolerance) {
                return 2;
            }
            return tickets.isFull() ? 3 : 0;
        }

        int whyNoReferral(int row, int realm) {
            if (tickets.get(row, Tickets.KIND) != FOR_REALM) {
                return 1;
            }
            if (!tickets.isAlive(row, time)) {
                return 2;
            }
            if (!realms.hasTrust(tickets.get(row, Tickets.REALM), realm)) {
                return 3;
            }
            if (isSkewed(row)) {
                return 4;
            }
            return tickets.isFull() ? 5 : 0;
        }

        int whyNoRequest(int row, int service) {
            if (tickets.get(row, Tickets.KIND) != FOR_REALM) {
                return 1;
            }
            if (!tickets.isAlive(row, time)) {
                return 2;
            }
            if (tickets.get(row, Tickets.REALM) != services.get(service, Services.REALM)) {
                return 3;
            }
            if (isSkewed(row)) {
                return 4;
            }
            return tickets.isFull() ? 5 : 0;
        }

        int whyNoRenewal(int row) {
            if (!tickets.canBeRenewed(row)) {
                return 1;
            }
            if (!tickets.isAlive(row, time)) {
                return 2;
            }
            return renewedEnd(row) > tickets.get(row, Tickets.END) ? 0 : 3;
        }

        /** Asks for a cheese that is wanted some minutes later, in which nothing else happens. */
        int whyNoCheese(int row, int minutes) {
            int then = time + minutes;
            int owner = tickets.get(row, Tickets.OWNER);
            int service = tickets.get(row, Tickets.SERVICE);
            if (tickets.get(row, Tickets.KIND) != FOR_SERVICE) {
                return 1;
            }
            if (!tickets.isAlive(row, then)) {
                return 2;
            }
            if (isSkewed(row)) {
                return 3;
            }
            if (uses.knows(owner, service, then + users.get(owner, Users.OFFSET), then - tolerance)) {
                return 4;
            }
            return services.get(service, Services.CHEESES) == 0 ? 5 : 0;
        }

        int makeLogin(int user, boolean renewable) {
            int row = makeTicket(user, users.get(user, Users.HOME), NONE);
            setLife(row, renewable, NO_LIMIT, NO_LIMIT);
            return tickets.get(row, Tickets.NUMBER);
        }

        int makeReferral(int old, int realm) {
            int row = makeTicket(tickets.get(old, Tickets.OWNER), realm, NONE);
            inheritLife(row, old);
            return tickets.get(row, Tickets.NUMBER);
        }

        int makeRequest(int old, int service) {
            int realm = tickets.get(old, Tickets.REALM);
            int row = makeTicket(tickets.get(old, Tickets.OWNER), realm, service);
            inheritLife(row, old);
            return tickets.get(row, Tickets.NUMBER);
        }

        int makeRenewal(int row) {
            int end = renewedEnd(row);
            tickets.set(row, Tickets.END, end);
            tickets.set(row, Tickets.KEY, drawKey());
            return end;
        }

        int giveCheese(int row) {
            int owner = tickets.get(row, Tickets.OWNER);
            int service = tickets.get(row, Tickets.SERVICE);
            int cheeses = users.get(owner, Users.CHEESES) + 1;
            uses.addUse(owner, service, time + users.get(owner, Users.OFFSET), time);
            services.set(service, Services.CHEESES, services.get(service, Services.CHEESES) - 1);
            users.set(owner, Users.CHEESES, cheeses);
            return cheeses;
        }

        void letPass(int minutes) {
            time += minutes;
            uses.forgetBefore(time - tolerance);
        }

        private int renewedEnd(int row) {
            int realm = tickets.get(row, Tickets.REALM);
            int end = time + realms.get(realm, Realms.LIFETIME);
            return Math.min(end, tickets.get(row, Tickets.LAST_END));
        }

        private int drawKey() {
            seed = (SEED_FACTOR * seed + SEED_STEP) % SEED_LIMIT;
            return seed;
        }

        private int makeTicket(int owner, int realm, int service) {
            int row = tickets.addRow();
            tickets.set(row, Tickets.NUMBER, madeTickets);
            tickets.set(row, Tickets.KIND, service == NONE ? FOR_REALM : FOR_SERVICE);
            tickets.set(row, Tickets.OWNER, owner);
            tickets.set(row, Tickets.REALM, realm);
            tickets.set(row, Tickets.SERVICE, service);
            tickets.set(row, Tickets.START, time);
            tickets.set(row, Tickets.KEY, drawKey());
            madeTickets++;
            return row;
        }

        private void inheritLife(int row, int old) {
            int end = tickets.get(old, Tickets.END);
            setLife(row, tickets.canBeRenewed(old), end, tickets.get(old, Tickets.LAST_END));
        }

        private void setLife(int row, boolean renewable, int mostEnd, int mostLastEnd) {
            int realm = tickets.get(row, Tickets.REALM);
            int end = Math.min(time + realms.get(realm, Realms.LIFETIME), mostEnd);
            int lastEnd = Math.min(time + realms.get(realm, Realms.RENEWAL), mostLastEnd);
            tickets.set(row, Tickets.END, end);
            tickets.set(row, Tickets.LAST_END, renewable ? Math.max(end, lastEnd) : end);
            tickets.set(row, Tickets.RENEWABLE, renewable ? 1 : 0);
        }
    }

    /** Places for copies of states. A place's object is made once and then used again. */
    private static final class Shelf {
        private final State[] states;

        Shelf(int size) {
            states = new State[Math.max(0, size)];
        }

        boolean isEmpty(int place) {
            return place < 0 || place >= states.length || states[place] == null;
        }

        void put(int place, State state) {
            if (place < 0 || place >= states.length) {
                return;
            }
            State copy = states[place];
            if (copy == null) {
                copy = new State();
                states[place] = copy;
            }
            copy.copyFrom(state);
        }

        void copyInto(State state, int place) {
            State copy = place >= 0 && place < states.length ? states[place] : null;
            if (copy != null) {
                state.copyFrom(copy);
            }
        }
    }

    /**
     * Reads the text into a draft. After the first error no token is taken any more, and what the
     * reading methods answer then is used for nothing. That a token's value is looked up before its
     * kind is asked for does no harm: the kind is the first that is required.
     */
    private static final class Parser {
        private static final int END = 0, WORD = 1, NUMBER = 2, SIGN = 3;
        private static final int NOT_ALLOWED = 1, OUT_OF_RANGE = 2, TAKEN = 3;
        private static final int UNKNOWN = 4, TOO_MANY = 5, REFUSED = 6;
        private static final int MAX_TOLERANCE = 9, MAX_SEED = 1023, MAX_LIFETIME = 999;
        private static final int MAX_RENEWAL = 9999, MAX_CHEESES = 99;

        private final Bytes text;
        private final State draft = new State();
        private int start;
        private int end;
        private int kind;
        private int value;
        private int error;
        private int errorAt = NONE;

        Parser(Bytes text) {
            this.text = text;
        }

        /** Answers whether the text has no error. */
        boolean run() {
            end = 0;
            error = 0;
            errorAt = NONE;
            take();
            readGate();
            for (int i = 0; i < MAX_INPUT && error == 0 && kind != END; i++) {
                readStatement();
            }
            return error == 0;
        }

        private void readStatement() {
            if (isWord("realm")) {
                readRealm();
            } else if (isWord("trust")) {
                readTrust();
            } else if (isWord("user")) {
                readUser();
            } else if (isWord("service")) {
                readService();
            } else if (isWord("login")) {
                readLogin();
            } else if (isWord("refer")) {
                readRefer();
            } else if (isWord("request")) {
                readRequest();
            } else if (isWord("renew")) {
                readRenew();
            } else if (isWord("cheese")) {
                readCheese();
            } else if (isWord("drop")) {
                readDrop();
            } else if (isWord("sweep")) {
                readSweep();
            } else if (isWord("pass")) {
                readPass();
            } else {
                require(false, NOT_ALLOWED);
            }
        }

        private void readGate() {
            require(isWord("gate"), NOT_ALLOWED);
            take();
            int tolerance = number(0, MAX_TOLERANCE);
            int seed = number(0, MAX_SEED);
            if (semicolon(true)) {
                draft.begin(tolerance, seed);
            }
        }

        private void readRealm() {
            require(!draft.realms.isFull(), TOO_MANY);
            take();
            int name = newName();
            int lifetime = number(1, MAX_LIFETIME);
            int renewal = number(0, MAX_RENEWAL);
            int direction = clockWord();
            int offset = direction == 0 ? 0 : direction * number(1, MAX_OFFSET);
            if (semicolon(true)) {
                draft.realms.addRealm(name, lifetime, renewal, offset);
            }
        }

        private void readTrust() {
            take();
            int from = knownName(draft.realms, Realms.NAME);
            int to = draft.realms.rowWith(Realms.NAME, value);
            require(kind == WORD, NOT_ALLOWED);
            require(to != from, TAKEN);
            require(to != NONE, UNKNOWN);
            take();
            if (semicolon(!draft.realms.hasTrust(from, to))) {
                draft.realms.addTrust(from, to);
            }
        }

        private void readUser() {
            require(!draft.users.isFull(), TOO_MANY);
            take();
            int name = newName();
            int home = knownName(draft.realms, Realms.NAME);
            int password = number(0, MAX_PASSWORD);
            int direction = clockWord();
            int offset = direction == 0 ? 0 : direction * number(1, MAX_OFFSET);
            if (semicolon(true)) {
                draft.users.addUser(name, home, password, offset);
            }
        }

        private void readService() {
            require(!draft.services.isFull(), TOO_MANY);
            take();
            int name = newName();
            int realm = knownName(draft.realms, Realms.NAME);
            int cheeses = number(0, MAX_CHEESES);
            if (semicolon(true)) {
                draft.services.addService(name, realm, cheeses);
                draft.cheesesOfText += cheeses;
            }
        }

        private void readLogin() {
            take();
            int user = knownName(draft.users, Users.NAME);
            int password = number(0, MAX_PASSWORD);
            boolean renewable = isWord("renewable");
            if (renewable) {
                take();
            }
            if (semicolon(draft.whyNoLogin(user, password) == 0)) {
                draft.makeLogin(user, renewable);
            }
        }

        private void readRefer() {
            take();
            int row = knownTicket();
            int realm = knownName(draft.realms, Realms.NAME);
            if (semicolon(draft.whyNoReferral(row, realm) == 0)) {
                draft.makeReferral(row, realm);
            }
        }

        private void readRequest() {
            take();
            int row = knownTicket();
            int service = knownName(draft.services, Services.NAME);
            if (semicolon(draft.whyNoRequest(row, service) == 0)) {
                draft.makeRequest(row, service);
            }
        }

        private void readRenew() {
            take();
            int row = knownTicket();
            if (semicolon(draft.whyNoRenewal(row) == 0)) {
                draft.makeRenewal(row);
            }
        }

        private void readCheese() {
            take();
            int row = knownTicket();
            if (semicolon(draft.whyNoCheese(row, 0) == 0)) {
                draft.giveCheese(row);
            }
        }

        private void readDrop() {
            take();
            int row = knownTicket();
            if (semicolon(true)) {
                draft.tickets.removeRow(row);
            }
        }

        private void readSweep() {
            take();
            if (semicolon(true)) {
                draft.tickets.removeDead(draft.time);
            }
        }

        private void readPass() {
            take();
            int minutes = number(0, MAX_MINUTES);
            if (semicolon(true)) {
                draft.letPass(minutes);
            }
        }

        private int number(int least, int most) {
            require(kind == NUMBER, NOT_ALLOWED);
            require(value >= least && value <= most, OUT_OF_RANGE);
            return take();
        }

        private int newName() {
            require(kind == WORD, NOT_ALLOWED);
            require(value != 0, OUT_OF_RANGE);
            require(draft.codeOfName(value) == NONE, TAKEN);
            return take();
        }

        private int knownName(Table table, int column) {
            int row = table.rowWith(column, value);
            require(kind == WORD, NOT_ALLOWED);
            require(row != NONE, UNKNOWN);
            take();
            return row;
        }

        private int knownTicket() {
            int row = draft.tickets.rowWith(Tickets.NUMBER, value);
            require(kind == NUMBER, NOT_ALLOWED);
            require(row != NONE, UNKNOWN);
            take();
            return row;
        }

        /** Answers 0 for even, and otherwise what the number that comes next is multiplied with. */
        private int clockWord() {
            boolean fast = isWord("fast");
            boolean even = isWord("even");
            require(fast || even || isWord("slow"), NOT_ALLOWED);
            take();
            if (even) {
                return 0;
            }
            return fast ? 1 : -1;
        }

        /** Answers whether the statement stands, which may be executed then. */
        private boolean semicolon(boolean allowed) {
            require(kind == SIGN && value == ';', NOT_ALLOWED);
            require(allowed, REFUSED);
            take();
            return error == 0;
        }

        private boolean isWord(String word) {
            return kind == WORD && text.isText(start, end, word);
        }

        /** The first error stays; so the smaller codes of a token are asked for first. */
        private void require(boolean holds, int code) {
            if (error == 0 && !holds) {
                error = code;
                errorAt = start;
            }
        }

        /** Answers the value of the token and moves on to the next one. */
        private int take() {
            int taken = value;
            if (error != 0) {
                return taken;
            }
            start = text.endOfBlanks(end);
            int first = text.at(start);
            if (first == NONE) {
                kind = END;
                end = start;
                value = 0;
            } else if (first >= 'a' && first <= 'z') {
                kind = WORD;
                end = text.endOfRun(start, 'a', 'z');
                value = text.nameBetween(start, end);
            } else if (first >= '0' && first <= '9') {
                kind = NUMBER;
                end = text.endOfRun(start, '0', '9');
                value = text.numberBetween(start, end);
            } else {
                kind = SIGN;
                end = start + 1;
                value = first;
            }
            return taken;
        }
    }
}
