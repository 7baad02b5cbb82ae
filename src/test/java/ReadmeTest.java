import java.nio.file.Files;
import java.nio.file.Path;
import java.util.Arrays;
import java.util.List;
import java.util.regex.Matcher;
import java.util.regex.Pattern;

/** README.md holds: its examples answer what they say, and its lists have each method and exception of the face. */
public final class ReadmeTest {
    private static final Pattern FACE_LINE = Pattern.compile("    public \\w+ (\\w+)\\((.*)\\)(?: throws (.*))?;");
    private static final List<String> EXCEPTIONS = List.of("NoSuchElementException", "IndexOutOfBoundsException",
            "IllegalArgumentException", "IllegalStateException");

    public static void main(String[] args) throws Exception {
        String readme = Files.readString(Path.of("README.md"));
        newObject();
        loading();
        loadingAnError();
        examplesAreThese(readme);
        methods(readme);
        exceptions(readme);
        Check.end();
    }

    /** Promises 1, 40, 51, 53, 55, 61, 65. */
    private static void newObject() {
        TicketGate gate = new TicketGate();
        int ticket = gate.login(0, 11, true);    // 5: a renewable gate ticket for alp, ann's home realm
        int service = gate.request(ticket, 1);   // 6: a ticket for the service 1 (goat) of that realm
        int cheeses = gate.cheese(service);      // 1: ann has one cheese now
        int reason = gate.cheeseRefusal(service);// 4: a second one would be the same request made again
        int length = gate.writeTicket(service);
        gate.undo();                             // takes the cheese back
        Check.same("ticket, service, cheeses, reason", List.of(ticket, service, cheeses, reason), List.of(5, 6, 1, 4));
        Check.same("cheeses after undo", gate.cheesesOf(0), 0);
        StringBuilder written = new StringBuilder();
        for (int i = 0; i < length; i++) {
            written.append((char) gate.outputByte(i));
        }
        Check.same("written", written.toString(), "6:ann@alp/goat 66+");
    }

    /** Promises 2 to 6. */
    private static void loading() {
        TicketGate gate = new TicketGate();
        put(gate, "gate 1 0;realm a 9 9 even;user u a 7 fast 1;login u 7;");
        int tickets = gate.load();               // 1
        Check.same("tickets", tickets, 1);
        Check.same("error and position", List.of(gate.errorCode(), gate.errorPosition()), List.of(0, -1));
    }

    private static void loadingAnError() {
        TicketGate gate = new TicketGate();
        put(gate, "gate 1 0;realm a 9 9 even;user u a 7 fast 2;login u 7;");
        try {
            gate.load();
        } catch (IllegalArgumentException e) {
            int code = gate.errorCode();         // 6: the login is refused, as the clocks differ by 2 minutes
            int position = gate.errorPosition(); // 53: the semicolon of the login
            Check.same("error and position", List.of(code, position), List.of(6, 53));
        }
        Check.same("error of the latest load", gate.errorCode(), 6);
        Check.same("the state stays", gate.ticketCount(), 5);
    }

    static void put(TicketGate gate, String text) {
        gate.truncateInput(0);
        for (int at = 0; at < text.length(); at += 20) {
            int[] four = new int[5];
            for (int i = 0; i < 20; i++) {
                int sign = at + i < text.length() ? text.charAt(at + i) : ' ';
                four[i / 4] = four[i / 4] << 8 | sign;
            }
            gate.appendInput(four[0], four[1], four[2], four[3], four[4]);
        }
        gate.truncateInput(text.length());
    }

    private static void examplesAreThese(String readme) throws Exception {
        List<String> here = Files.readString(Path.of("src/test/java/ReadmeTest.java")).lines().map(String::trim).toList();
        String[] parts = readme.split("```");
        int examples = 0;
        for (int i = 1; i < parts.length; i += 2) {
            examples++;
            String example = parts[i].substring("java".length());
            example.lines().map(String::trim).forEach(line -> Check.same("runs here: " + line, here.contains(line), true));
        }
        Check.same("examples", examples, 4);
    }

    /** Each method stands on the page with the names of what it takes. */
    private static void methods(String readme) throws Exception {
        int seen = 0;
        for (String line : Files.readAllLines(Path.of("../shared/DOC.md"))) {
            Matcher face = FACE_LINE.matcher(line);
            if (face.matches()) {
                seen++;
                String call = "`" + face.group(1) + "(" + face.group(2).replaceAll("\\w+ (\\w+)", "$1") + ")`";
                Check.same("tells of " + call, readme.contains(call), true);
                inOrder(face.group(1), face.group(3));
            }
        }
        Check.same("methods", seen, 64);
    }

    /** The page says that the exceptions come in one order in all calls. */
    private static void inOrder(String name, String clause) {
        int last = -1;
        for (String exception : clause == null ? new String[0] : clause.split(", ")) {
            Check.same(name + " throws " + exception + " in this order", EXCEPTIONS.indexOf(exception) > last, true);
            last = EXCEPTIONS.indexOf(exception);
        }
    }

    private static void exceptions(String readme) {
        List<String> rows = Arrays.stream(readme.split("\n")).filter(line -> line.matches("\\| \\w+Exception \\|.*"))
                .map(line -> line.split(" ")[1]).toList();
        Check.same("exceptions", rows, EXCEPTIONS);
    }
}
