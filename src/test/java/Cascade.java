import java.util.ArrayList;
import java.util.List;

/**
 * A ReservoirCascade as the tests use it. The document promises nothing behind an object's 512th call, so that no
 * object gets one. What was called is kept: it is called again on others, which are looked at in place of this one.
 */
final class Cascade {
    private interface Call {
        long on(ReservoirCascade object);
    }

    static final int MOST_CALLS = 512;

    private ReservoirCascade object = new ReservoirCascade();
    private final List<Call> history = new ArrayList<>();
    private int calls;
    /** Whether it stands beside another one: it begins anew when its calls are used up, and its own aren't kept. */
    private final boolean beside;

    Cascade() {
        beside = false;
    }

    private Cascade(List<Call> before, boolean beside) {
        this.beside = beside;
        history.addAll(before);
        begin();
    }

    /** Another one after the same calls, of which anything may be asked that changes nothing, how often ever. */
    Cascade beside() {
        return new Cascade(history, true);
    }

    /** Another one after the same calls, which goes its own way. */
    Cascade twin() {
        return new Cascade(history, false);
    }

    private void begin() {
        object = new ReservoirCascade();
        calls = history.size();
        for (Call call : history) {
            callAgain(call);
        }
    }

    private void callAgain(Call call) {
        try {
            call.on(object);
        } catch (RuntimeException e) {
            // It was refused the first time, too, and checked then.
        }
    }

    private long answer(Call call) {
        if (calls == MOST_CALLS && beside) {
            begin();
        }
        if (calls == MOST_CALLS) {
            throw new AssertionError("a test needs more than " + MOST_CALLS + " calls of one object");
        }
        calls++;
        if (!beside) {
            history.add(call);
        }
        return call.on(object);
    }

    int append(int packed) {
        return (int) answer(x -> x.append(packed));
    }

    int execute() {
        return (int) answer(x -> x.execute());
    }

    int errorPosition() {
        return (int) answer(x -> x.errorPosition());
    }

    int reservoir(int reservoir, int what) {
        return (int) answer(x -> x.reservoir(reservoir, what));
    }

    int head(int reservoir, int storage) {
        return (int) answer(x -> x.head(reservoir, storage));
    }

    int target(int reservoir, int month, int plan) {
        return (int) answer(x -> x.target(reservoir, month, plan));
    }

    int inflow(int scenario, int reservoir, int month) {
        return (int) answer(x -> x.inflow(scenario, reservoir, month));
    }

    int operate(int months, int scenario, int plan) {
        return (int) answer(x -> x.operate(months, scenario, plan));
    }

    int byHand(int scenario, int first, int second, int third) {
        return (int) answer(x -> x.byHand(scenario, first, second, third));
    }

    int latest(int reservoir, int what) {
        return (int) answer(x -> x.latest(reservoir, what));
    }

    int stage() {
        return (int) answer(x -> x.stage());
    }

    int reaches(int stage, int scenario, int plan) {
        return (int) answer(x -> x.reaches(stage, scenario, plan));
    }

    int account(int reservoir, int what) {
        return (int) answer(x -> x.account(reservoir, what));
    }

    int difference(int reservoir) {
        return (int) answer(x -> x.difference(reservoir));
    }

    long value() {
        return answer(x -> x.value());
    }

    long ahead(int months, int scenario, int plan, int what) {
        return answer(x -> x.ahead(months, scenario, plan, what));
    }

    long regret(int months, int scenario, int plan) {
        return answer(x -> x.regret(months, scenario, plan));
    }

    int choose(int months, int way) {
        return (int) answer(x -> x.choose(months, way));
    }

    long score(int months, int way, int plan) {
        return answer(x -> x.score(months, way, plan));
    }

    long best(int months, int scenario) {
        return answer(x -> x.best(months, scenario));
    }

    int option(int months, int scenario, int month, int reservoir) {
        return (int) answer(x -> x.option(months, scenario, month, reservoir));
    }

    int report(int reservoir) {
        return (int) answer(x -> x.report(reservoir));
    }

    char character(int index) {
        return (char) answer(x -> x.character(index));
    }

    int undo() {
        return (int) answer(x -> x.undo());
    }

    int save() {
        return (int) answer(x -> x.save());
    }

    int restore() {
        return (int) answer(x -> x.restore());
    }

    int count(int what) {
        return (int) answer(x -> x.count(what));
    }
}
