import java.io.IOException;
import java.util.LinkedHashMap;
import java.util.Map;
import java.util.Set;
import java.util.function.IntFunction;
import java.util.function.IntUnaryOperator;
import java.util.function.ToIntFunction;
import java.util.stream.IntStream;

/** Runs a test of its own for each sentence that names a boundary case, and finds sentences that have none. */
final class Edges {
    /** What names no boundary case, so that no test need quote it. */
    private static final Set<String> PLAIN = Set.of(
            "An operator of a cascade of reservoirs: rule curves, needs with drought stages, least releases, power by"
                    + " heads in tables, spills that go on downstream, scenarios of inflows, plans with regrets, best"
                    + " releases for short horizons, explanations, accounts of all water, and undo.",
            "The class is not thread-safe.",
            "The constructor and the methods follow, a promise each: the signature, then what it does.",
            "Texts and settings.", "Operating.", "Accounts.", "Looking ahead.", "Reports.",
            "Undo, snapshots and counts.",
            "Returns a number of a reservoir.", "Returns the head of a reservoir at a storage.",
            "Returns the target of a reservoir by a plan.", "Returns an inflow.", "Returns the number.",
            "Returns the head.", "Returns the target.", "Returns the inflow.", "Returns the sum.", "Returns the stage.",
            "Returns the difference.", "Returns the value.", "Returns the regret.", "Returns the plan.",
            "Returns the option.", "Returns the character.", "Returns a count or setting.",
            "Returns what decides about a plan.", "Returns the value of the best releases.",
            "Returns an option of the best releases.");
    private static final String NOT_PROMISED = "Not promised";

    private static final Map<Document.Sentence, Boolean> quotes = new LinkedHashMap<>();
    private static Document document;

    /** A call about a reservoir of an object. */
    interface ReservoirCall {
        long of(Cascade x, int reservoir);
    }

    private Edges() {
    }

    static void begin() throws IOException {
        document = Document.read();
    }

    /** The quote stands in one of the document's sentences, and the test fails if what it says doesn't hold. */
    static void test(String section, String quote, Runnable test) {
        Check.within(section + ", \"" + quote + "\"");
        Check.equal("the document says so", document.says(section, quote), true);
        Check.equal("this is its only test", quotes.put(new Document.Sentence(section, quote), true), null);
        int before = Check.checks();
        try {
            test.run();
        } catch (RuntimeException e) {
            Check.equal("the test itself", e, "no exception");
        }
        Check.equal("the test checks something", Check.checks() > before, true);
        Check.within("");
    }

    static void finish() {
        for (Document.Sentence sentence : document.sentences()) {
            boolean signature = sentence.text().startsWith("`");
            boolean free = PLAIN.contains(sentence.text()) || sentence.section().equals(NOT_PROMISED);
            if (!signature && !free) {
                boolean quoted = quotes.keySet().stream().anyMatch(q -> sentence.holds(q.section(), q.text()));
                Check.equal(sentence.section() + ", \"" + sentence.text() + "\": has a test", quoted, true);
            }
        }
        System.out.println("EdgeTest: " + quotes.size() + " sentences and parts of them");
    }

    /** A number of a command: the least and the greatest one are taken and told; those beside them are errors. */
    static void range(String setUp, String before, String behind, int least, int most,
            ToIntFunction<Cascade> told) {
        for (int number : new int[] {least, most}) {
            Cascade x = after(setUp);
            String text = before + number + behind;
            Check.equal("execute " + text, Check.outcome(x, text), "1");
            Check.equal("what is told after " + text, told.applyAsInt(x), number);
        }
        if (least > 0) {
            error(setUp, before + (least - 1) + behind, before.length());
        }
        // The first four digits of 10000 are in range; the fifth one is not allowed.
        error(setUp, before + (most + 1) + behind, before.length() + (most == 9999 ? 4 : 0));
    }

    static void error(String setUp, String text, int position) {
        Check.equal("execute " + text, Check.outcome(after(setUp), text), "error " + position);
    }

    static void done(String setUp, String text, int commands) {
        Check.equal("execute " + text, Check.outcome(after(setUp), text), String.valueOf(commands));
    }

    static Cascade after(String setUp) {
        return setUp.isEmpty() ? new Cascade() : Check.after(setUp);
    }

    /** The least index whose number is this one, or -1 if there is none below the end. */
    static int where(int end, IntUnaryOperator numbers, int due) {
        return IntStream.range(0, end).filter(i -> numbers.applyAsInt(i) == due).findFirst().orElse(-1);
    }

    /** A parameter: the call answers at the least and the greatest number, and throws at those beside them. */
    static void bounds(Cascade x, int least, int most, Class<? extends RuntimeException> beyond,
            IntFunction<Check.Call> call) {
        answers("with " + least, call.apply(least));
        answers("with " + most, call.apply(most));
        for (int number : new int[] {least - 1, most + 1, Integer.MIN_VALUE, Integer.MAX_VALUE}) {
            Check.raises("with " + number, beyond, x, call.apply(number));
        }
    }

    static void answers(String what, Check.Call call) {
        String got = "an answer";
        try {
            call.run();
        } catch (RuntimeException e) {
            got = e.toString();
        }
        Check.equal(what, got, "an answer");
    }
}
