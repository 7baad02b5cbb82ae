import java.lang.reflect.InvocationTargetException;
import java.lang.reflect.Method;
import java.util.Random;

/** Runs of calls on the class and on the model: each answer and each exception must be the same. */
public final class ModelTest {
    private static final int RUNS = 3000;
    private static final int CALLS = 512;
    private static final int MAX_TOLD = 5;
    private static final String[] NAMES = {"a", "bb", "ccc", "dddd", "e", "u", "vv", "www", "even", "user", "s", "tt", "ff", "gg", "hhhh"};
    private static final String[] ACTIONS = {"login", "login", "refer", "refer", "request", "request", "renew", "renew",
        "cheese", "cheese", "cheese", "drop", "sweep", "setPassword", "setClock", "pass", "pass", "save", "restore", "undo"};

    private static final Method[] FACE = face();
    private static int differences = 0;
    private static int callsLeft = 0;

    public static void main(String[] args) {
        for (int run = 0; run < RUNS && differences < MAX_TOLD; run++) {
            run(new Random(run), "run " + run);
        }
        Check.same("runs that differ", differences, 0);
        Check.end();
    }

    private static Method[] face() {
        Method[] methods = Model.class.getMethods();
        return java.util.Arrays.stream(methods).filter(m -> m.getDeclaringClass() == Model.class)
                .sorted(java.util.Comparator.comparing(Method::getName)).toArray(Method[]::new);
    }

    private static void run(Random random, String name) {
        TicketGate gate = new TicketGate();
        Model model = new Model();
        StringBuilder story = new StringBuilder(name);
        callsLeft = CALLS;
        while (callsLeft > 0) {
            boolean same = random.nextInt(40) == 0 ? text(random, gate, model, story) : step(random, gate, model, story);
            if (!same) {
                differences++;
                System.out.println(story.substring(Math.max(0, story.length() - 1500)));
                return;
            }
        }
    }

    private static boolean step(Random random, TicketGate gate, Model model, StringBuilder story) {
        Method method = FACE[random.nextInt(FACE.length)];
        if (random.nextInt(2) == 0) {
            method = named(ACTIONS[random.nextInt(ACTIONS.length)]);
        }
        return call(method, arguments(random, method, model), gate, model, story);
    }

    private static Method named(String name) {
        for (Method method : FACE) {
            if (method.getName().equals(name)) {
                return method;
            }
        }
        throw new AssertionError(name);
    }

    private static Object[] arguments(Random random, Method method, Model model) {
        Object[] values = new Object[method.getParameterCount()];
        boolean edge = random.nextInt(8) == 0;
        for (int i = 0; i < values.length; i++) {
            boolean flag = method.getParameterTypes()[i] == boolean.class;
            values[i] = flag ? (Object) random.nextBoolean() : (Object) number(random, method.getName(), i, model, edge);
        }
        return values;
    }

    private static int number(Random random, String name, int place, Model model, boolean edge) {
        int[] edges = {-1, 0, 1, 2, 5, 6, 9, 10, 20, 999, 1000, 9999, 10000, -9, -10, Integer.MAX_VALUE, Integer.MIN_VALUE};
        if (edge) {
            return edges[random.nextInt(edges.length)];
        }
        switch (name) {
            case "setClock":
                return place == 0 ? random.nextInt(3) : random.nextInt(19) - 9;
            case "login": case "loginRefusal": case "setPassword":
                return place == 0 ? random.nextInt(3) : random.nextInt(2);
            case "pass": case "validAfter":
                return 1 + random.nextInt(random.nextInt(6) == 0 ? 60 : 3);
            case "save": case "restore":
                return random.nextInt(2);
            case "truncateInput": case "outputByte":
                return random.nextInt(30);
            case "appendInput":
                return random.nextInt();
            default:
        }
        boolean ofTicket = place == 0 && ("refer referRefusal request requestRefusal renew cheese drop kindOf ownerOf realmOf serviceOf "
                + "startOf endOf lastEndOf keyOf isRenewable isValid minutesLeft renewRefusal cheeseRefusal minutesUntilCheese "
                + "writeTicket ").contains(name + " ");
        if (ofTicket && model.ticketCount() > 0) {
            return model.ticketAt(random.nextInt(model.ticketCount()));
        }
        return random.nextInt(4);
    }

    /** Makes no call any more when 512 have been made: what later ones answer is free. */
    private static boolean call(Method method, Object[] values, TicketGate gate, Model model, StringBuilder story) {
        if (callsLeft == 0) {
            return true;
        }
        callsLeft--;
        Object got = answer(method, values, gate);
        Object due = answer(method, values, model);
        story.append("\n").append(method.getName()).append(java.util.Arrays.toString(values)).append(" -> ").append(got);
        if (!got.equals(due)) {
            story.append(", due is ").append(due);
        }
        return got.equals(due);
    }

    private static Object answer(Method method, Object[] values, Object target) {
        try {
            Method own = target.getClass().getMethod(method.getName(), method.getParameterTypes());
            return own.invoke(target, values);
        } catch (InvocationTargetException e) {
            return e.getCause().getClass().getSimpleName();
        } catch (ReflectiveOperationException e) {
            throw new AssertionError(e);
        }
    }

    /** Loads a text, often one with an error, and asks how that went. */
    private static boolean text(Random random, TicketGate gate, Model model, StringBuilder story) {
        String text = make(random);
        if (random.nextInt(2) == 0) {
            text = spoil(random, text);
        }
        text = text.substring(0, Math.min(600, text.length()));
        boolean same = call(named("truncateInput"), new Object[] {0}, gate, model, story);
        for (int at = 0; at < text.length(); at += 20) {
            Object[] fours = new Object[5];
            for (int i = 0; i < 5; i++) {
                int four = 0;
                for (int k = 0; k < 4; k++) {
                    int place = at + 4 * i + k;
                    four = four << 8 | (place < text.length() ? text.charAt(place) : ' ');
                }
                fours[i] = four;
            }
            same = same && call(named("appendInput"), fours, gate, model, story);
        }
        same = same && call(named("truncateInput"), new Object[] {text.length()}, gate, model, story);
        story.append("\n").append(text);
        for (String name : new String[] {"findName", "load", "errorCode", "errorPosition", "ticketCount", "time", "seed"}) {
            same = same && call(named(name), new Object[0], gate, model, story);
        }
        return same;
    }

    private static String make(Random random) {
        StringBuilder text = new StringBuilder();
        text.append("gate ").append(random.nextInt(10)).append(' ').append(random.nextInt(1024)).append(';');
        int realms = 1 + random.nextInt(5);
        for (int i = 0; i < realms; i++) {
            text.append("realm ").append(NAMES[i]).append(' ').append(1 + random.nextInt(40)).append(' ')
                    .append(random.nextInt(90)).append(clock(random)).append(';');
        }
        int users = 1 + random.nextInt(3);
        for (int i = 0; i < users; i++) {
            text.append("user ").append(NAMES[5 + i]).append(' ').append(NAMES[random.nextInt(realms)]).append(' ')
                    .append(random.nextInt(2)).append(clock(random)).append(';');
        }
        int services = 1 + random.nextInt(4);
        for (int i = 0; i < services; i++) {
            text.append("service ").append(NAMES[10 + i]).append(' ').append(NAMES[random.nextInt(realms)]).append(' ')
                    .append(random.nextInt(random.nextInt(2) == 0 ? 100 : 4)).append(';');
        }
        for (int i = random.nextInt(8); i > 0; i--) {
            text.append("trust ").append(NAMES[random.nextInt(realms)]).append(' ').append(NAMES[random.nextInt(realms)]).append(';');
        }
        for (int i = random.nextInt(14); i > 0; i--) {
            deed(random, text, realms);
        }
        return text.toString();
    }

    private static String clock(Random random) {
        int kind = random.nextInt(4);
        return kind > 1 ? " even" : (kind == 0 ? " slow " : " fast ") + (1 + random.nextInt(3));
    }

    private static void deed(Random random, StringBuilder text, int realms) {
        int t = random.nextInt(4);
        switch (random.nextInt(9)) {
            case 0, 1 -> text.append("login ").append(NAMES[5 + random.nextInt(2)]).append(' ').append(random.nextInt(2))
                    .append(random.nextBoolean() ? " renewable;" : ";");
            case 2 -> text.append("refer ").append(t).append(' ').append(NAMES[random.nextInt(realms)]).append(';');
            case 3 -> text.append("request ").append(t).append(' ').append(NAMES[10 + random.nextInt(2)]).append(';');
            case 4 -> text.append("renew ").append(t).append(';');
            case 5 -> text.append("cheese ").append(t).append(';');
            case 6 -> text.append("drop ").append(t).append(';');
            case 7 -> text.append("sweep;");
            default -> text.append("pass ").append(random.nextInt(20)).append(';');
        }
    }

    private static String spoil(Random random, String text) {
        String[] pieces = {" ", "\n", ";", "0", "9", "10", "realm", "user ", "a", "gate 1 1;", "even", "fast 3", "renewable", "\t",
            String.valueOf((char) 233), "00000000000000000001", "99999999999999999999", "trust a bb;", "service zz a 1;", "user zz a 1 even;"};
        int from = random.nextInt(text.length());
        int to = random.nextInt(3) == 0 ? from : Math.min(text.length(), from + random.nextInt(6));
        String piece = random.nextInt(4) == 0 ? "" : pieces[random.nextInt(pieces.length)];
        String spoiled = text.substring(0, from) + piece + text.substring(to);
        return random.nextInt(6) == 0 ? spoiled.substring(0, random.nextInt(spoiled.length() + 1)) : spoiled;
    }
}
