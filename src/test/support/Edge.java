import java.util.HashMap;
import java.util.HashSet;
import java.util.List;
import java.util.Map;
import java.util.Set;

/** One test for one sentence of the document, which it quotes; no sentence may be left without a test. */
final class Edge {
    private static final Map<String, List<String>> DUE = Doc.sentences();
    private static final Map<String, Set<String>> TESTED = new HashMap<>();

    private Edge() {
    }

    static void of(String place, String sentence, Runnable test) {
        String quoted = Doc.plain(sentence);
        Check.topic(place + ", \"" + quoted + "\": ");
        Check.same("stands in the document", DUE.getOrDefault(place, List.of()).contains(quoted), true);
        TESTED.computeIfAbsent(place, k -> new HashSet<>()).add(quoted);
        try {
            test.run();
        } catch (RuntimeException e) {
            Check.same("an exception that nothing awaits", e.toString(), "none");
        }
        Check.topic("");
    }

    static void end() {
        for (String place : DUE.keySet()) {
            for (String sentence : DUE.get(place)) {
                boolean tested = TESTED.getOrDefault(place, Set.of()).contains(sentence);
                Check.same(place + ", \"" + sentence + "\" has a test", tested || saysNothing(sentence), true);
            }
        }
        Check.end();
    }

    /** A heading of a table, and what an argument is if no range is named. */
    private static boolean saysNothing(String sentence) {
        return sentence.endsWith(":") || sentence.startsWith("- ") && !sentence.matches(".*(\\d|current).*");
    }
}
