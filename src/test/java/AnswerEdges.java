import java.util.NoSuchElementException;

/** Promises 5 to 16: the numbers of reservoirs, operating, and the accounts. */
final class AnswerEdges {
    private static final String THREE = "add:100,10,30,80;add:50,5,20,50;add:70,7,9,40;";
    private static final String TWO = "add:100,10,30,80;add:50,0,20,50;need:0,10;head:0,0,2;head:1,0,3;";
    private static final String TWO_FLOWS = "flow:0,0,0,20;flow:0,1,0,7;curve:0,0,60;least:1,5;";

    private AnswerEdges() {
    }

    static void run() {
        reservoirs();
        heads();
        targets();
        inflows();
        operate();
        byHand();
        latest();
        stage();
        reaches();
        account();
        difference();
        value();
    }

    private static Cascade three() {
        return Check.after(THREE);
    }

    private static void noSuchReservoir(String promise, Edges.ReservoirCall call) {
        Edges.test(promise, "Throws `IndexOutOfBoundsException` if there is no such reservoir", () -> {
            Cascade x = three();
            x.operate(1, 0, 0);
            Edges.bounds(x, 0, 2, Check.INDEX, r -> () -> call.of(x, r));
            Cascade empty = new Cascade();
            Check.raises("reservoir 0 of none", Check.INDEX, empty, () -> call.of(empty, 0));
            Cascade one = Check.after("add:1,0,0,0;");
            Check.raises("reservoir 1 of one", Check.INDEX, one, () -> call.of(one, 1));
        });
    }

    private static void reservoirs() {
        Edges.test("Promise 5", "- `reservoir`: the reservoir", () -> {
            for (int r = 0; r < 3; r++) {
                Check.equal("capacity of " + r, three().reservoir(r, 0), new int[] {100, 50, 70}[r]);
            }
        });
        Edges.test("Promise 5", "0 for its capacity, 1 for its dead storage, 2 for its turbine, 3 for its storage,"
                + " 4 for its need, 5 for its least release, 6 for the number of entries of its table", () -> {
            Cascade x = Check.after(THREE, "need:1,11;least:1,12;head:1,50,13;head:1,60,14;");
            int[] dues = {50, 5, 20, 50, 11, 12, 2};
            for (int what = 0; what < dues.length; what++) {
                Check.equal("what " + what, x.reservoir(1, what), dues[what]);
            }
        });
        Edges.test("Promise 5", "7 for the head at its storage", () -> {
            Cascade x = Check.after(THREE, "head:1,50,13;head:1,49,12;");
            Check.equal("at 50", x.reservoir(1, 7), 13);
            x.byHand(0, 0, 1, 0);
            Check.equal("at 49", x.reservoir(1, 7), 12);
            x.byHand(0, 0, 1, 0);
            Check.equal("at 48", x.reservoir(1, 7), 0);
        });
        noSuchReservoir("Promise 5", (x, r) -> x.reservoir(r, 0));
        Edges.test("Promise 5", "Throws `IllegalArgumentException` if there is no such what", () -> {
            Cascade x = three();
            Edges.bounds(x, 0, 7, Check.ARGUMENT, what -> () -> x.reservoir(0, what));
        });
    }

    private static void heads() {
        Edges.test("Promise 6", "- `reservoir`: the reservoir", () -> {
            Cascade x = Check.after(THREE, "head:0,0,1;head:1,0,2;head:2,0,3;");
            for (int r = 0; r < 3; r++) {
                Check.equal("head of " + r, x.head(r, 0), 1 + r);
            }
        });
        Edges.test("Promise 6", "`storage`: the storage, 0 to 9999", () -> {
            Cascade x = Check.after(THREE, "head:0,0,1;head:0,9999,2;");
            Check.equal("at 0", x.head(0, 0), 1);
            Check.equal("at 9998, above the capacity", x.head(0, 9998), 1);
            Check.equal("at 9999", x.head(0, 9999), 2);
        });
        noSuchReservoir("Promise 6", (x, r) -> x.head(r, 0));
        Edges.test("Promise 6", "Throws `IllegalArgumentException` if the storage is out of range", () -> {
            Cascade x = three();
            Edges.bounds(x, 0, 9999, Check.ARGUMENT, storage -> () -> x.head(0, storage));
        });
    }

    private static void targets() {
        Edges.test("Promise 7", "- `reservoir`: the reservoir", () -> {
            for (int r = 0; r < 3; r++) {
                Check.equal("target of " + r, three().target(r, 0, 0), new int[] {100, 50, 70}[r]);
            }
        });
        Edges.test("Promise 7", "- `month`: the month of the year", () -> {
            Cascade x = Check.after(THREE, "curve:0,0,1;curve:0,11,2;");
            Check.equal("month 0", x.target(0, 0, 0), 1);
            Check.equal("month 11", x.target(0, 11, 0), 2);
            x.operate(1, 0, 0);
            Check.equal("month 0 of the year, in month 1", x.target(0, 0, 0), 1);
        });
        Edges.test("Promise 7", "- `plan`: the plan", () -> {
            Cascade x = Check.after(THREE, "factor:0,10;factor:3,90;");
            Check.equal("plan 0", x.target(0, 0, 0), 10);
            Check.equal("plan 3", x.target(0, 0, 3), 90);
        });
        Edges.test("Promise 7",
                "Throws `IndexOutOfBoundsException` if there is no such reservoir, month or plan", () -> {
            Cascade x = three();
            Edges.bounds(x, 0, 2, Check.INDEX, r -> () -> x.target(r, 0, 0));
            Edges.bounds(x, 0, 11, Check.INDEX, month -> () -> x.target(0, month, 0));
            Edges.bounds(x, 0, 3, Check.INDEX, plan -> () -> x.target(0, 0, plan));
            Cascade empty = new Cascade();
            Check.raises("reservoir 0 of none", Check.INDEX, empty, () -> empty.target(0, 0, 0));
        });
    }

    private static void inflows() {
        Edges.test("Promise 8", "`scenario`: the scenario, 0 to 4", () -> {
            Cascade x = Check.after(THREE, "flow:0,0,0,3;flow:3,0,0,8;");
            Check.equal("scenario 0", x.inflow(0, 0, 0), 3);
            Check.equal("scenario 3", x.inflow(3, 0, 0), 8);
            Check.equal("scenario 4", x.inflow(4, 0, 0), 2);
        });
        Edges.test("Promise 8", "- `reservoir`: the reservoir", () -> {
            Cascade x = Check.after(THREE, "flow:0,0,0,3;flow:0,2,0,8;");
            Check.equal("reservoir 0", x.inflow(0, 0, 0), 3);
            Check.equal("reservoir 2", x.inflow(0, 2, 0), 8);
        });
        Edges.test("Promise 8", "- `month`: the month of the year", () -> {
            Cascade x = Check.after(THREE, "flow:0,0,0,3;flow:0,0,11,8;");
            Check.equal("month 0", x.inflow(0, 0, 0), 3);
            Check.equal("month 11", x.inflow(0, 0, 11), 8);
        });
        Edges.test("Promise 8",
                "Throws `IndexOutOfBoundsException` if there is no such scenario, reservoir or month", () -> {
            Cascade x = three();
            Edges.bounds(x, 0, 4, Check.INDEX, scenario -> () -> x.inflow(scenario, 0, 0));
            Edges.bounds(x, 0, 2, Check.INDEX, r -> () -> x.inflow(0, r, 0));
            Edges.bounds(x, 0, 11, Check.INDEX, month -> () -> x.inflow(0, 0, month));
            Cascade empty = new Cascade();
            Check.raises("reservoir 0 of none", Check.INDEX, empty, () -> empty.inflow(0, 0, 0));
        });
    }

    /** In month 0, scenarios 0 to 3 bring 10, 20, 30 and 40, and their mean 25. */
    private static Cascade withScenarios() {
        return Check.after("add:999,0,999,0;", "flow:0,0,0,10;flow:1,0,0,20;flow:2,0,0,30;flow:3,0,0,40;");
    }

    private static final int[] CAME = {10, 20, 30, 40, 25};

    /** Plans 0 to 3 leave 100, 80, 60 and 120 of 200. */
    private static Cascade withPlans() {
        return Check.after("add:200,0,999,200;curve:0,0,100;");
    }

    private static final int[] LEFT = {100, 80, 60, 120};

    private static void operate() {
        Edges.test("Promise 9", "Operates the cascade by a plan", () -> {
            Cascade x = Check.after(TWO, TWO_FLOWS);
            x.operate(1, 0, 0);
            Check.equal("storage of 0", x.reservoir(0, 3), 60);
            Check.equal("storage of 1", x.reservoir(1, 3), 50);
        });
        Edges.test("Promise 9", "`months`: the number of months, 1 to 24", () -> {
            Cascade x = Check.after("add:99,0,0,99;need:0,1;stage:1,0,0;stage:2,0,0;stage:3,0,0;");
            x.operate(1, 0, 0);
            Check.equal("storage after 1", x.reservoir(0, 3), 98);
            x.operate(24, 0, 0);
            Check.equal("storage after 24 more", x.reservoir(0, 3), 74);
        });
        Edges.test("Promise 9", "`scenario`: the scenario that the inflows follow, 0 to 4", () -> {
            for (int scenario = 0; scenario < 5; scenario++) {
                Cascade x = withScenarios();
                x.operate(1, scenario, 0);
                Check.equal("what came by " + scenario, x.reservoir(0, 3), CAME[scenario]);
            }
        });
        Edges.test("Promise 9", "- `plan`: the plan", () -> {
            for (int plan = 0; plan < 4; plan++) {
                Cascade x = withPlans();
                x.operate(1, 0, plan);
                Check.equal("storage by " + plan, x.reservoir(0, 3), LEFT[plan]);
            }
        });
        Edges.test("Promise 9", "Returns the present month then", () -> {
            Cascade x = three();
            Check.equal("1", x.operate(1, 0, 0), 1);
            Check.equal("24 more", x.operate(24, 0, 0), 25);
            Check.equal("the present month", x.count(1), 25);
        });
        Edges.test("Promise 9", "Throws `IndexOutOfBoundsException` if there is no such scenario or plan", () -> {
            Cascade x = three();
            Edges.bounds(x, 0, 4, Check.INDEX, scenario -> () -> x.operate(1, scenario, 0));
            Edges.bounds(x, 0, 3, Check.INDEX, plan -> () -> x.operate(1, 0, plan));
        });
        Edges.test("Promise 9", "Throws `IllegalArgumentException` if the number is out of range", () -> {
            Cascade x = three();
            Edges.bounds(x, 1, 24, Check.ARGUMENT, months -> () -> x.operate(months, 0, 0));
        });
        Edges.test("Promise 9", "Throws `IllegalStateException` if there are no reservoirs", () -> {
            Cascade x = new Cascade();
            Check.raises("none", Check.STATE, x, () -> x.operate(1, 0, 0));
            Check.execute(x, "add:1,0,0,0;");
            Edges.answers("one", () -> x.operate(1, 0, 0));
        });
        Edges.test("Promise 9", "or the present month would be greater than 999", () -> {
            Check.equal("from 975 on", RefusedEdges.lateAs(975).operate(24, 0, 0), 999);
            Check.equal("from 976 on", RefusedEdges.lateAs(976).operate(23, 0, 0), 999);
            Cascade late = RefusedEdges.lateAs(976);
            Check.raises("24 from 976 on", Check.STATE, late, () -> late.operate(24, 0, 0));
            Cascade last = RefusedEdges.lateAs(998);
            Check.raises("two from 998 on", Check.STATE, last, () -> last.operate(2, 0, 0));
            Check.equal("one from 998 on", last.operate(1, 0, 0), 999);
            Check.raises("one from 999 on", Check.STATE, last, () -> last.operate(1, 0, 0));
        });
    }

    private static void byHand() {
        Edges.test("Promise 10", "Operates the cascade for one month by hand", () -> {
            Cascade x = three();
            x.byHand(0, 1, 2, 3);
            Check.equal("month", x.count(1), 1);
            for (int r = 0; r < 3; r++) {
                Check.equal("release of " + r, x.latest(r, 4), 1 + r);
            }
        });
        Edges.test("Promise 10", "Wishes for reservoirs that there are not are ignored, but must be in range", () -> {
            Cascade x = Check.after("add:90,0,9,90;head:0,0,1;");
            Check.equal("energy of the only one", x.byHand(0, 3, 9999, 9999), 3);
            Check.equal("storage", x.reservoir(0, 3), 87);
            Check.raises("the second beyond its range", Check.ARGUMENT, x, () -> x.byHand(0, 3, 10000, 0));
            Check.raises("the third beyond its range", Check.ARGUMENT, x, () -> x.byHand(0, 3, 0, -1));
            Check.execute(x, "add:90,0,9,90;");
            x.byHand(0, 0, 0, 0);
            Check.equal("an ignored wish doesn't wait", x.latest(1, 4), 0);
        });
        Edges.test("Promise 10", "`scenario`: the scenario that the inflows follow, 0 to 4", () -> {
            for (int scenario = 0; scenario < 5; scenario++) {
                Cascade x = withScenarios();
                x.byHand(scenario, 0, 0, 0);
                Check.equal("what came by " + scenario, x.reservoir(0, 3), CAME[scenario]);
            }
        });
        Edges.test("Promise 10", "`first`: the wish for reservoir 0, 0 to 9999", () -> wishes(0));
        Edges.test("Promise 10", "`second`: the wish for reservoir 1", () -> wishes(1));
        Edges.test("Promise 10", "`third`: the wish for reservoir 2", () -> wishes(2));
        Edges.test("Promise 10", "Returns the sum of the energies of the month", () -> {
            Cascade x = Check.after(THREE, "head:0,0,1;head:1,0,10;head:2,0,99;");
            Check.equal("all three", x.byHand(0, 1, 2, 3), 1 + 20 + 297);
            Check.equal("the next month alone", x.byHand(0, 0, 1, 0), 10);
            Check.equal("none", x.byHand(0, 0, 0, 0), 0);
        });
        Edges.test("Promise 10", "Throws `IndexOutOfBoundsException` if there is no such scenario", () -> {
            Cascade x = three();
            Edges.bounds(x, 0, 4, Check.INDEX, scenario -> () -> x.byHand(scenario, 0, 0, 0));
        });
        Edges.test("Promise 10", "Throws `IllegalArgumentException` if a wish is out of range", () -> {
            Cascade x = three();
            Edges.bounds(x, 0, 9999, Check.ARGUMENT, wish -> () -> x.byHand(0, wish, 0, 0));
            Edges.bounds(x, 0, 9999, Check.ARGUMENT, wish -> () -> x.byHand(0, 0, wish, 0));
            Edges.bounds(x, 0, 9999, Check.ARGUMENT, wish -> () -> x.byHand(0, 0, 0, wish));
        });
        Edges.test("Promise 10", "Throws `IllegalStateException` if there are no reservoirs", () -> {
            Cascade x = new Cascade();
            Check.raises("none", Check.STATE, x, () -> x.byHand(0, 0, 0, 0));
            Check.execute(x, "add:1,0,0,0;");
            Edges.answers("one", () -> x.byHand(0, 0, 0, 0));
        });
        Edges.test("Promise 10", "or the present month would be greater than 999", () -> {
            Cascade x = RefusedEdges.lateAs(998);
            Edges.answers("in month 998", () -> x.byHand(0, 0, 0, 0));
            Check.equal("the last month", x.count(1), 999);
            Check.raises("in month 999", Check.STATE, x, () -> x.byHand(0, 0, 0, 0));
        });
    }

    /** The least and the greatest wish for this reservoir of three, whose neighbours wish nothing. */
    private static void wishes(int reservoir) {
        for (int wish : new int[] {0, 9999}) {
            Cascade x = three();
            x.byHand(0, reservoir == 0 ? wish : 0, reservoir == 1 ? wish : 0, reservoir == 2 ? wish : 0);
            for (int r = 0; r < 3; r++) {
                int due = r == reservoir && wish > 0 ? x.reservoir(r, 2) : 0;
                Check.equal("release of " + r + " by " + wish, x.latest(r, 4), due);
            }
        }
    }

    private static void latest() {
        Edges.test("Promise 11", "Returns a number of the latest month that was operated", () -> {
            Cascade x = Check.after(TWO, TWO_FLOWS);
            x.operate(3, 0, 0);
            Check.equal("storage at the beginning of month 2", x.latest(0, 0), 50);
            x.byHand(0, 4, 0, 0);
            Check.equal("release of month 3", x.latest(0, 4), 4);
            x.operate(1, 0, 0);
            Check.equal("release of month 4", x.latest(0, 4), 0);
        });
        Edges.test("Promise 11", "- `reservoir`: the reservoir", () -> {
            Cascade x = three();
            x.byHand(0, 0, 0, 0);
            for (int r = 0; r < 3; r++) {
                Check.equal("storage of " + r, x.latest(r, 0), new int[] {80, 50, 40}[r]);
            }
        });
        Edges.test("Promise 11", "- `what`: 0 for its storage at the beginning", () -> {
            Cascade x = Check.after(TWO, TWO_FLOWS);
            x.operate(1, 0, 0);
            int[][] dues = {{80, 20, 10, 0, 30, 0, 60, 0}, {50, 37, 0, 0, 20, 17, 60, 2}};
            for (int what = 0; what < 8; what++) {
                Check.equal("what " + what + " of 0", x.latest(0, what), dues[0][what]);
                Check.equal("what " + what + " of 1", x.latest(1, what), dues[1][what]);
            }
        });
        noSuchReservoir("Promise 11", (x, r) -> x.latest(r, 0));
        Edges.test("Promise 11", "Throws `IllegalArgumentException` if there is no such what", () -> {
            Cascade x = three();
            x.operate(1, 0, 0);
            Edges.bounds(x, 0, 7, Check.ARGUMENT, what -> () -> x.latest(0, what));
        });
        Edges.test("Promise 11", "if no month was operated since the latest successful execute", () -> {
            Cascade x = three();
            Check.raises("no month at all", Check.STATE, x, () -> x.latest(0, 0));
            x.byHand(0, 0, 0, 0);
            Edges.answers("a month by hand", () -> x.latest(0, 0));
            Check.outcome(x, "price:100;");
            Edges.answers("an execute that failed", () -> x.latest(0, 0));
            Check.execute(x, "price:1;");
            Check.raises("an execute", Check.STATE, x, () -> x.latest(0, 7));
            x.operate(1, 0, 0);
            Edges.answers("a month by a plan", () -> x.latest(0, 7));
        });
    }

    private static void stage() {
        Edges.test("Promise 12", "Returns the present stage, that of the present month", () -> {
            Cascade x = Check.after("add:100,0,100,50;");
            Check.equal("at 50", x.stage(), 0);
            int[] wishes = {1, 20, 15, 14};
            int[] dues = {1, 2, 3, 3};
            for (int i = 0; i < wishes.length; i++) {
                x.byHand(0, wishes[i], 0, 0);
                Check.equal("at " + x.reservoir(0, 3), x.stage(), dues[i]);
            }
            Check.equal("without reservoirs", new Cascade().stage(), 3);
            Check.equal("by other thresholds", Check.after("add:9,0,0,9;stage:2,100,0;").stage(), 0);
        });
        Edges.test("In doubt", "The stage of a month is that at its beginning", () -> {
            Cascade x = Check.after("add:100,0,100,50;need:0,10;");
            Check.equal("months with a stage, the present one alone", x.ahead(1, 0, 0, 5), 0);
            Check.equal("months with a stage, the next one too", x.ahead(2, 0, 0, 5), 1);
            x.operate(1, 0, 0);
            Check.equal("supply of the month that reached the stage", x.latest(0, 2), 10);
            x.operate(1, 0, 0);
            Check.equal("supply of the next month", x.latest(0, 2), 8);
        });
    }

    /** The storage of 1000 loses 1 a month: the filling is below 98 from the 21st month on, below 97 from the 31st. */
    private static Cascade slowly() {
        return Check.after("add:1000,0,0,1000;need:0,1;stage:1,98,100;stage:2,97,100;stage:3,96,100;");
    }

    private static void reaches() {
        Edges.test("Promise 13",
                "the least number of months after which the present stage is at least this one", () -> {
            Check.equal("stage 1 after 21", slowly().reaches(1, 0, 0), 21);
            Cascade jump = Check.after("add:100,0,100,60;curve:0,0,60;curve:0,1,0;");
            for (int stage = 1; stage <= 3; stage++) {
                Check.equal("from stage 0 to 3, stage " + stage, jump.reaches(stage, 0, 0), 2);
            }
            Cascade wet = Check.after("add:100,0,0,50;need:0,1;flow:0,0,1,40;");
            Check.equal("a stage that is left again", wet.reaches(1, 0, 0), 1);
        });
        Edges.test("Promise 13", "`stage`: the stage, 0 to 3", () -> {
            Cascade x = Check.after("add:100,0,100,40;curve:0,0,20;curve:0,1,10;");
            for (int stage = 0; stage < 4; stage++) {
                Check.equal("stage " + stage, x.reaches(stage, 0, 0), new int[] {0, 0, 1, 2}[stage]);
            }
        });
        Edges.test("Promise 13", "`scenario`: the scenario, 0 to 4", () -> {
            String flows = "flow:0,0,0,10;flow:1,0,0,20;flow:2,0,0,30;flow:3,0,0,40;";
            Cascade x = Check.after("add:100,0,0,49;need:0,10;",
                    "stage:1,10,100;stage:2,9,100;stage:3,0,0;", flows);
            for (int scenario = 0; scenario < 5; scenario++) {
                Check.equal("scenario " + scenario, x.reaches(1, scenario, 0), new int[] {5, 6, 7, 8, 7}[scenario]);
            }
        });
        Edges.test("Promise 13", "- `plan`: the plan", () -> {
            Cascade x = Check.after("add:100,0,100,100;curve:0,0,80;",
                    "stage:1,0,0;stage:2,0,0;stage:3,70,0;");
            Check.equal("plan 2", x.reaches(3, 0, 2), 1);
            Check.equal("plan 1", x.reaches(3, 0, 1), 1);
            Check.raises("plan 0", NoSuchElementException.class, x, () -> x.reaches(3, 0, 0));
            Check.raises("plan 3", NoSuchElementException.class, x, () -> x.reaches(3, 0, 3));
        });
        Edges.test("Promise 13", "Returns the number of months, 0 to 36", () -> {
            Cascade x = slowly();
            x.operate(5, 0, 0);
            Check.equal("36", x.reaches(3, 0, 0), 36);
            Check.equal("0", x.reaches(0, 0, 0), 0);
        });
        Edges.test("Promise 13", "Throws `IndexOutOfBoundsException` if there is no such scenario or plan", () -> {
            Cascade x = three();
            Edges.bounds(x, 0, 4, Check.INDEX, scenario -> () -> x.reaches(0, scenario, 0));
            Edges.bounds(x, 0, 3, Check.INDEX, plan -> () -> x.reaches(0, 0, plan));
        });
        Edges.test("Promise 13", "Throws `IllegalArgumentException` if there is no such stage", () -> {
            Cascade x = Check.after("add:9,0,0,0;");
            Edges.bounds(x, 0, 3, Check.ARGUMENT, stage -> () -> x.reaches(stage, 0, 0));
        });
        Edges.test("Promise 13", "if it is not reached after 36 months or fewer", () -> {
            Cascade x = slowly();
            x.operate(4, 0, 0);
            Check.raises("37", NoSuchElementException.class, x, () -> x.reaches(3, 0, 0));
            Cascade never = Check.after("stage:1,0,0;stage:2,0,0;stage:3,0,0;");
            Check.raises("never", NoSuchElementException.class, never, () -> never.reaches(1, 0, 0));
        });
        Edges.test("In doubt", "reaches is 0 if the stage is reached now", () -> {
            Cascade x = Check.after("add:100,0,0,20;flow:0,0,0,80;");
            int[] dues = {0, 0, 0};
            for (int stage = 0; stage < 3; stage++) {
                Check.equal("stage " + stage + " in stage 2", x.reaches(stage, 0, 0), dues[stage]);
            }
            Check.raises("stage 3 in stage 2", NoSuchElementException.class, x, () -> x.reaches(3, 0, 0));
            Check.equal("without reservoirs", new Cascade().reaches(3, 0, 0), 0);
        });
    }

    private static void account() {
        Edges.test("Promise 14", "Returns a sum over all months that were operated so far", () -> {
            Cascade x = Check.after(TWO, TWO_FLOWS);
            Check.equal("no month", x.account(0, 3), 0);
            x.operate(1, 0, 0);
            Check.equal("one month", x.account(0, 3), 30);
            Check.execute(x, "price:1;");
            x.byHand(0, 4, 0, 0);
            Check.equal("two months, with an execute between them", x.account(0, 3), 34);
            x.operate(12, 0, 0);
            Check.equal("inflows of 14 months", x.account(0, 0), 40);
        });
        Edges.test("Promise 14", "`reservoir`: the reservoir, or -1 for all", () -> {
            Cascade x = three();
            x.byHand(0, 1, 2, 4);
            int[] dues = {1 + 2 + 4, 1, 2, 4};
            for (int r = -1; r < 3; r++) {
                Check.equal("releases of " + r, x.account(r, 3), dues[r + 1]);
            }
            Check.equal("all of none", new Cascade().account(-1, 6), 0);
        });
        Edges.test("Promise 14", "0 for the inflows of scenarios, 1 for supplies, 2 for shortages, 3 for releases,"
                + " 4 for spills, 5 for energies", () -> {
            Cascade x = Check.after(TWO, TWO_FLOWS + "need:0,95;");
            x.operate(1, 0, 0);
            // Of 100, 90 are supplied and 5 short: 10 stay, which is the dead storage, and nothing goes down.
            int[][] dues = {{20, 90, 5, 0, 0, 0}, {7, 0, 0, 7, 0, 21}};
            for (int what = 0; what < 6; what++) {
                Check.equal("what " + what + " of 0", x.account(0, what), dues[0][what]);
                Check.equal("what " + what + " of 1", x.account(1, what), dues[1][what]);
                Check.equal("what " + what + " of all", x.account(-1, what), dues[0][what] + dues[1][what]);
            }
            Cascade wet = Check.after("add:9,0,0,9;flow:0,0,0,5;");
            wet.operate(1, 0, 0);
            Check.equal("spills", wet.account(0, 4), 5);
            Cascade down = Check.after(TWO, TWO_FLOWS);
            down.operate(1, 0, 0);
            Check.equal("what comes from above is no inflow of a scenario", down.account(1, 0), 7);
        });
        Edges.test("Promise 14", "6 for the sum of the storages at which reservoirs were added", () -> {
            Cascade x = three();
            x.operate(3, 0, 0);
            Check.equal("all", x.account(-1, 6), 80 + 50 + 40);
            Check.equal("none", new Cascade().account(-1, 6), 0);
        });
        Edges.test("In doubt", "The storage at which a reservoir was added is told for this one alone", () -> {
            Cascade x = three();
            x.byHand(0, 9, 8, 7);
            for (int r = 0; r < 3; r++) {
                Check.equal("reservoir " + r, x.account(r, 6), new int[] {80, 50, 40}[r]);
            }
        });
        Edges.test("Promise 14",
                "Throws `IndexOutOfBoundsException` if reservoir is neither -1 nor a reservoir", () -> {
            Cascade x = three();
            Edges.bounds(x, -1, 2, Check.INDEX, r -> () -> x.account(r, 0));
            Cascade empty = new Cascade();
            Edges.answers("-1 of none", () -> empty.account(-1, 0));
            Check.raises("0 of none", Check.INDEX, empty, () -> empty.account(0, 0));
        });
        Edges.test("Promise 14", "Throws `IllegalArgumentException` if there is no such what", () -> {
            Cascade x = three();
            Edges.bounds(x, 0, 6, Check.ARGUMENT, what -> () -> x.account(0, what));
            Edges.bounds(x, 0, 6, Check.ARGUMENT, what -> () -> x.account(-1, what));
        });
    }

    private static void difference() {
        Edges.test("Promise 15", "the storage at which it was added, plus all that came into it, minus supplies,"
                + " releases and spills, minus its storage", () -> {
            Cascade x = Check.after("add:30,9,9,4;add:20,0,7,20;add:9,9,99,9;need:0,8;need:1,3;need:2,20;");
            Check.execute(x, "flow:0,0,0,99;flow:0,1,0,44;flow:1,0,1,20;flow:2,2,2,999;");
            for (int month = 0; month < 30; month++) {
                x.operate(1, month % 5, month % 4);
                x.byHand(month % 5, month, 5, 9999);
                for (int r = 0; r < 3; r++) {
                    Check.equal("reservoir " + r + " in month " + month, x.difference(r), 0);
                }
            }
        });
        Edges.test("Promise 15", "- `reservoir`: the reservoir", () -> {
            Cascade x = Check.after("add:90,0,9,50;flow:0,0,0,7;");
            x.operate(1, 0, 0);
            Check.execute(x, "add:90,0,9,50;");
            Check.equal("one with a past", x.difference(0), 0);
            Check.equal("one that is new", x.difference(1), 0);
            x.byHand(0, 5, 2, 0);
            Check.equal("one that gave", x.difference(0), 0);
            Check.equal("one that got", x.difference(1), 0);
        });
        noSuchReservoir("Promise 15", (x, r) -> x.difference(r));
    }

    private static void value() {
        Edges.test("Promise 16", "each by the price, penalty and waste when it was operated", () -> {
            Cascade x = Check.after("add:90,0,9,90;need:0,3;head:0,0,2;flow:0,0,0,1;flow:0,0,1,11;");
            Check.equal("no month", x.value(), 0);
            Check.execute(x, "price:7;");
            x.byHand(0, 5, 0, 0);
            Check.equal("one month", x.value(), 70);
            Check.execute(x, "price:2;waste:4;");
            Check.equal("the past keeps its price", x.value(), 70);
            x.byHand(0, 0, 0, 0);
            Check.equal("1 is spilt", x.value(), 70 - 4);
            Check.execute(x, "waste:0;stage:1,100,0;stage:2,100,0;stage:3,100,0;penalty:9;");
            x.byHand(0, 1, 0, 0);
            Check.equal("in no stage", x.value(), 66 + 4);
            x.byHand(0, 0, 0, 0);
            Check.equal("3 are short", x.value(), 70 - 27);
            Check.execute(x, "penalty:0;price:0;");
            x.byHand(0, 9, 0, 0);
            Check.equal("nothing counts", x.value(), 43);
        });
    }
}
