import java.util.NoSuchElementException;

/** The sentences about all calls: how many there are, and what holds when one is refused. */
final class RefusedEdges {
    private RefusedEdges() {
    }

    static void run() {
        Edges.test("What it is", "An object is used for at most 512 calls after it has been made",
                RefusedEdges::the512thCall);
        Edges.test("Description", "A method that throws an exception leaves the state unchanged",
                RefusedEdges::refusedCallsChangeNothing);
        Edges.test("Description", "unless its description says otherwise", RefusedEdges::executeSaysOtherwise);
        Edges.test("Description", "the one listed first in the description of the method is thrown",
                RefusedEdges::theFirstListed);
        Edges.test("Description", "All volumes, flows, heads and values are integers", RefusedEdges::integers);
    }

    /** A unit comes in each first month of the year. */
    private static void the512thCall() {
        Cascade x = new Cascade();
        String text = "add:9999,0,0,0;flow:0,0,0,1;";
        int calls = 0;
        for (char sign : text.toCharArray()) {
            x.append(sign);
            calls++;
        }
        x.execute();
        calls++;
        for (; calls < 511; calls++) {
            x.byHand(0, 0, 0, 0);
        }
        Check.equal("the 512th call", x.reservoir(0, 3), 482 / 12 + 1);
    }

    private static Cascade used() {
        Cascade x = Check.after("add:100,10,30,80;add:50,0,20,50;need:0,10;head:0,0,2;flow:0,0,0,20;");
        x.operate(2, 0, 0);
        x.save();
        x.byHand(0, 5, 5, 0);
        Check.outcome(x, "price:x;");
        Check.append(x, "price:9;".repeat(10));
        x.report(0);
        return x;
    }

    private static void refusedCallsChangeNothing() {
        Cascade x = used();
        refuseAll(x);
        Cascade twin = used();
        Check.equal("undo", x.undo(), twin.undo());
        Check.equal("the state after it", Check.all(x), Check.all(twin));
        Check.equal("undo again", x.undo(), twin.undo());
        Check.equal("the state after both", Check.all(x), Check.all(twin));
        Check.equal("restore", x.restore(), twin.restore());
        Check.equal("the state after restore", Check.all(x), Check.all(twin));
        Check.raises("undo of nothing", Check.STATE, x, x::undo);
        Check.equal("execute", x.execute(), twin.execute());
        Check.equal("the state after execute", Check.all(x), Check.all(twin));
        Check.raises("latest of no month", Check.STATE, x, () -> x.latest(0, 0));
        Cascade empty = new Cascade();
        Check.raises("restore of nothing", Check.STATE, empty, empty::restore);
        Check.raises("operate nothing", Check.STATE, empty, () -> empty.operate(1, 0, 0));
        Check.raises("by hand of nothing", Check.STATE, empty, () -> empty.byHand(0, 0, 0, 0));
        Check.raises("best of nothing", Check.STATE, empty, () -> empty.best(1, 0));
    }

    private static void refuseAll(Cascade x) {
        Check.raises("append a blank", Check.ARGUMENT, x, () -> x.append('a' << 8 | ' '));
        Check.raises("append the 81st", Check.STATE, x, () -> x.append('a'));
        Check.raises("reservoir", Check.ARGUMENT, x, () -> x.reservoir(0, 8));
        Check.raises("head", Check.ARGUMENT, x, () -> x.head(0, 10000));
        Check.raises("target", Check.INDEX, x, () -> x.target(0, 12, 0));
        Check.raises("inflow", Check.INDEX, x, () -> x.inflow(5, 0, 0));
        Check.raises("operate", Check.ARGUMENT, x, () -> x.operate(25, 0, 0));
        Check.raises("byHand", Check.ARGUMENT, x, () -> x.byHand(0, 1, 2, 10000));
        Check.raises("latest", Check.ARGUMENT, x, () -> x.latest(0, 8));
        Check.raises("reaches", NoSuchElementException.class, x, () -> x.reaches(3, 0, 3));
        Check.raises("account", Check.INDEX, x, () -> x.account(2, 0));
        Check.raises("difference", Check.INDEX, x, () -> x.difference(2));
        Check.raises("ahead", Check.ARGUMENT, x, () -> x.ahead(24, 0, 0, 6));
        Check.raises("regret", Check.ARGUMENT, x, () -> x.regret(25, 0, 0));
        Check.raises("choose", Check.ARGUMENT, x, () -> x.choose(24, 3));
        Check.raises("score", Check.ARGUMENT, x, () -> x.score(24, 3, 0));
        Check.raises("best", Check.ARGUMENT, x, () -> x.best(4, 0));
        Check.raises("option", Check.INDEX, x, () -> x.option(3, 0, 3, 0));
        Check.raises("report", Check.INDEX, x, () -> x.report(2));
        Check.raises("character", Check.INDEX, x, () -> x.character(99));
        Check.raises("count", Check.ARGUMENT, x, () -> x.count(8));
    }

    private static void executeSaysOtherwise() {
        Cascade x = Check.after("price:7;");
        Check.equal("execute", Check.outcome(x, "price:8;price:100;"), "error 14");
        Check.equal("the price stays", x.count(5), 7);
        Check.equal("the buffer is empty", x.count(4), 0);
        Check.equal("the error position", x.errorPosition(), 14);
    }

    private static void theFirstListed() {
        Cascade full = Edges.after("");
        Check.append(full, "a".repeat(80));
        Check.raises("append a blank to 80", Check.ARGUMENT, full, () -> full.append('a' << 8 | ' '));
        theFirstListedOfAnswers(Check.after("add:100,0,30,80;"));
        theFirstListedOfNothing(new Cascade());
        Cascade late = lateAs(999);
        Check.raises("scenario, months, month 999", Check.INDEX, late, () -> late.operate(25, 5, 0));
        Check.raises("months, month 999", Check.ARGUMENT, late, () -> late.operate(25, 0, 0));
        Check.raises("scenario, wish, month 999", Check.INDEX, late, () -> late.byHand(5, 0, 0, -1));
        Check.raises("wish, month 999", Check.ARGUMENT, late, () -> late.byHand(0, 0, 0, -1));
    }

    private static void theFirstListedOfAnswers(Cascade x) {
        Check.raises("reservoir, what", Check.INDEX, x, () -> x.reservoir(1, 8));
        Check.raises("head", Check.INDEX, x, () -> x.head(1, 10000));
        Check.raises("latest: reservoir, what, no month", Check.INDEX, x, () -> x.latest(1, 8));
        Check.raises("latest: what, no month", Check.ARGUMENT, x, () -> x.latest(0, 8));
        Check.raises("operate: scenario, months", Check.INDEX, x, () -> x.operate(0, 5, 0));
        Check.raises("operate: plan, months", Check.INDEX, x, () -> x.operate(25, 0, 4));
        Check.raises("byHand: scenario, wish", Check.INDEX, x, () -> x.byHand(5, 10000, 0, 0));
        Check.raises("reaches: scenario, stage", Check.INDEX, x, () -> x.reaches(4, 5, 0));
        Check.raises("reaches: plan, stage", Check.INDEX, x, () -> x.reaches(-1, 0, 4));
        Check.raises("reaches: stage, never", Check.ARGUMENT, x, () -> x.reaches(4, 0, 0));
        Check.raises("account: reservoir, what", Check.INDEX, x, () -> x.account(-2, 7));
        Check.raises("ahead: scenario, months, what", Check.INDEX, x, () -> x.ahead(0, 5, 0, 6));
        Check.raises("ahead: plan, what", Check.INDEX, x, () -> x.ahead(1, 0, 4, 6));
        Check.raises("regret: scenario, months", Check.INDEX, x, () -> x.regret(0, 5, 0));
        Check.raises("regret: plan, months", Check.INDEX, x, () -> x.regret(25, 0, 4));
        Check.raises("score: plan, months, way", Check.INDEX, x, () -> x.score(0, 3, 4));
        Check.raises("score: plan, way", Check.INDEX, x, () -> x.score(1, 3, -1));
        Check.raises("best: scenario, months", Check.INDEX, x, () -> x.best(4, 5));
        Check.raises("option: scenario, months", Check.INDEX, x, () -> x.option(4, 5, 0, 0));
        Check.raises("option: reservoir, months", Check.INDEX, x, () -> x.option(4, 0, 0, 1));
        Check.raises("option: month, months", Check.INDEX, x, () -> x.option(4, 0, 4, 0));
        Check.raises("option: months alone", Check.ARGUMENT, x, () -> x.option(4, 0, 3, 0));
    }

    private static void theFirstListedOfNothing(Cascade x) {
        Check.raises("operate: scenario, months, none", Check.INDEX, x, () -> x.operate(25, 5, 0));
        Check.raises("operate: plan, none", Check.INDEX, x, () -> x.operate(1, 0, 4));
        Check.raises("operate: months, none", Check.ARGUMENT, x, () -> x.operate(0, 0, 0));
        Check.raises("byHand: scenario, wish, none", Check.INDEX, x, () -> x.byHand(-1, -1, 0, 0));
        Check.raises("byHand: wish, none", Check.ARGUMENT, x, () -> x.byHand(0, 0, 10000, 0));
        Check.raises("best: scenario, months, none", Check.INDEX, x, () -> x.best(0, 5));
        Check.raises("best: months, none", Check.ARGUMENT, x, () -> x.best(0, 0));
        Check.raises("option: none, months", Check.INDEX, x, () -> x.option(4, 0, 0, 0));
        Check.raises("latest: none, no month", Check.INDEX, x, () -> x.latest(0, 0));
    }

    /** A cascade in this month of 24 or more; nothing comes into its reservoir of 100. */
    static Cascade lateAs(int month) {
        Cascade x = Check.after("add:100,0,30,80;");
        while (x.count(1) + 24 <= month) {
            x.operate(24, 0, 0);
        }
        if (x.count(1) < month) {
            x.operate(month - x.count(1), 0, 0);
        }
        return x;
    }

    /** Half of 3 is 1, a third of 100 is 33, a quarter of 3 is 0; nothing of what is cut off comes back later. */
    private static void integers() {
        Cascade x = Check.after("add:3,0,3,1;head:0,0,1;flow:0,0,1,3;curve:0,0,3;factor:0,50;");
        Check.equal("filling", x.count(2), 33);
        Check.equal("target", x.target(0, 0, 0), 1);
        Check.equal("mean", x.inflow(4, 0, 1), 0);
        x.operate(2, 4, 0);
        Check.equal("inflows by the mean", x.account(0, 0), 0);
    }
}
