/** The sentences about best releases, and promises 17 to 22: looking ahead. */
final class AheadEdges {
    private static final String NO_DROUGHT = "stage:1,0,0;stage:2,0,0;stage:3,0,0;";
    /** In month 0, plans 0 to 3 release 20, 40, 60 and nothing, each with an energy of 1. */
    private static final String PLANS = "add:200,0,100,120;head:0,0,1;curve:0,0,100;";

    /** The scores of the plans in two months of ways(), by ways and plans. */
    private static final long[][] SCORES = {{114, 100, 190, 150}, {-300, -240, -190, -210}, {-420, -500, -572, -540}};

    private AheadEdges() {
    }

    static void run() {
        choices();
        inDoubt();
        ahead();
        regret();
        choose();
        score();
        best();
        option();
    }

    private static void bestIs(Cascade x, int months, long due, int... options) {
        Check.equal("best of " + months, x.best(months, 0), due);
        int size = x.count(0);
        for (int i = 0; i < options.length; i++) {
            Check.equal("option " + i + " of " + months, x.option(months, 0, i / size, i % size), options[i]);
        }
    }

    private static void choices() {
        Edges.test("Best releases",
                "the wish by hand of 0, of half of its turbine, rounded down, or of its turbine", () -> {
            // Half of 5 is 2: of 13, 11 are left for a head of 99 in the next month.
            bestIs(Check.after("add:20,0,5,13;head:0,0,1;head:0,11,99;"), 2, 2 * 99 + 5 * 99, 1, 2);
            bestIs(Check.after("add:20,0,5,12;head:0,0,1;head:0,11,99;"), 2, 5 * 99 + 5, 2, 2);
            bestIs(Check.after("add:20,0,4,13;head:0,0,1;head:0,11,99;"), 2, 2 * 99 + 4 * 99, 1, 2);
            bestIs(Check.after("add:20,0,1,1;head:0,0,1;"), 1, 1, 2);
            bestIs(Check.after("add:20,0,0,9;head:0,0,1;"), 1, 0, 0);
            bestIs(Check.after("add:9999,0,999,9999;head:0,0,99;"), 1, 999 * 99, 2);
        });
        Edges.test("Best releases", "these are its options 0, 1 and 2", () -> {
            // 12 is the dead storage: of 14, half of the turbine takes all there is.
            bestIs(Check.after("add:20,12,4,12;head:0,0,1;"), 1, 0, 0);
            bestIs(Check.after("add:20,12,4,14;head:0,0,1;"), 1, 2, 1);
            bestIs(Check.after("add:20,12,4,15;head:0,0,1;"), 1, 3, 2);
        });
        Edges.test("Best releases", "gives each reservoir the wish by hand", () ->
                bestIs(Check.after("add:20,12,4,14;add:20,0,3,20;add:9,0,5,0;head:0,0,1;head:1,0,2;head:2,0,3;"), 1,
                        2 + 6 + 9, 1, 2, 2));
        Edges.test("Best releases", "a number of months from 1 to 3", () -> {
            Cascade x = Check.after("add:90,0,4,90;head:0,0,1;");
            bestIs(x, 1, 4, 2);
            bestIs(x, 2, 8, 2, 2);
            bestIs(x, 3, 12, 2, 2, 2);
            Check.raises("0 months", Check.ARGUMENT, x, () -> x.best(0, 0));
            Check.raises("4 months", Check.ARGUMENT, x, () -> x.best(4, 0));
        });
        Edges.test("Best releases", "beginning with the present month", () -> {
            Cascade x = Check.after("add:90,0,50,0;head:0,0,1;flow:0,0,11,7;flow:0,0,0,20;flow:0,0,1,30;");
            bestIs(x, 1, 20);
            x.operate(11, 1, 0);
            bestIs(x, 1, 7);
            bestIs(x, 2, 27);
            bestIs(x, 3, 50 + 7);
            Check.equal("its options go on from there", x.option(1, 0, 0, 0), 1);
        });
        Edges.test("Best releases", "the choices with the greatest value of these months", () -> {
            // The greatest value of the first month alone would be 5 * 9.
            bestIs(Check.after("add:20,0,5,13;head:0,0,1;head:0,11,9;"), 1, 45, 2);
            bestIs(Check.after("add:20,0,5,13;head:0,0,1;head:0,11,9;"), 2, 18 + 45, 1, 2);
            // All values are below 0: what isn't released above is spilt there, or is short below.
            bestIs(Check.after("add:9,0,4,9;flow:0,0,0,6;waste:3;"), 1, -6, 2);
            bestIs(Check.after("add:9,0,4,9;add:9,0,0,0;need:1,5;penalty:2;stage:1,0,0;stage:2,0,0;"), 1, -2, 2, 0);
            // 1 is short in a drought: what is above in month 1 keeps it off, whatever was tried before.
            bestIs(Check.after("add:10,0,10,10;add:10,0,5,10;head:1,0,1;need:1,1;"), 2, 10, 0, 2, 1, 2);
            // The most reservoirs and months.
            bestIs(Check.after("add:90,0,1,90;add:90,0,3,9;add:90,0,5,20;head:0,0,1;head:1,0,9;head:2,0,9;"), 3,
                    3 * (1 + 27 + 45), 2, 2, 2, 2, 2, 2, 2, 2, 2);
        });
        Edges.test("Best releases", "by months and in each month by reservoirs, is lexicographically least",
                AheadEdges::leastOptions);
    }

    private static void leastOptions() {
        bestIs(Check.after("add:9,0,5,5;head:0,0,1;"), 3, 5, 0, 0, 2);
        bestIs(Check.after("add:9,0,5,9;add:9,0,5,0;add:9,0,5,0;"), 2, 0, 0, 0, 0, 0, 0, 0);
        // 3 by reservoir 1 in month 0, or in month 1 if reservoir 0 fills it up before.
        bestIs(Check.after("add:3,0,3,1;add:4,0,1,3;head:1,3,3;need:1,1;", NO_DROUGHT), 2, 3, 0, 2, 0, 0);
        // 6 by reservoir 1 in month 0, with 2 short in the drought behind it; or 4 in month 1, with help from above.
        bestIs(Check.after("add:4,0,2,1;add:6,0,3,5;head:1,3,2;need:1,2;penalty:1;",
                "stage:1,20,0;stage:2,0,0;stage:3,0,0;"), 2, 4, 0, 0, 1, 2);
    }

    private static void inDoubt() {
        Edges.test("In doubt", "Options of the same number are different options", () -> {
            bestIs(Check.after("add:9,0,1,9;head:0,0,7;"), 1, 7, 2);
            bestIs(Check.after("add:9,0,0,9;head:0,0,7;"), 3, 0, 0, 0, 0);
            bestIs(Check.after("add:9,0,0,9;add:9,0,1,9;head:1,0,7;"), 2, 14, 0, 2, 0, 2);
        });
        Edges.test("In doubt",
                "Methods that look ahead do so without reservoirs, too, with values 0 and a filling of 0", () -> {
            Cascade x = new Cascade();
            for (int what = 0; what < 5; what++) {
                Check.equal("ahead " + what, x.ahead(24, 4, 3, what), 0);
            }
            Check.equal("months with a stage", x.ahead(24, 4, 3, 5), 24);
            Check.equal("reaches", x.reaches(3, 4, 3), 0);
            Check.equal("regret", x.regret(24, 4, 3), 0);
            for (int way = 0; way < 3; way++) {
                Check.equal("choose " + way, x.choose(24, way), 0);
                Check.equal("score " + way, x.score(24, way, 3), 0);
            }
            Check.equal("months with a stage of no threshold", Check.after(NO_DROUGHT).ahead(24, 0, 0, 5), 0);
        });
        Edges.test("In doubt", "and beyond month 999", AheadEdges::beyondMonth999);
        Edges.test("In doubt", "they go by the price, penalty and waste of now", () -> {
            Cascade x = Check.after("add:9,0,1,9;head:0,0,2;need:0,9;flow:0,0,1,9;",
                    "price:50;penalty:60;waste:70;");
            x.operate(1, 0, 0);
            Check.execute(x, "price:3;penalty:1;waste:0;stage:3,0,0;stage:2,0,0;stage:1,0,0;");
            // 9 come to 0, and all are supplied; then nothing comes.
            Check.equal("one month", x.ahead(1, 0, 0, 0), 0);
            Check.equal("two months", x.ahead(2, 0, 0, 0), -9);
            Check.equal("least value", x.score(1, 1, 0), -9);
            Check.equal("best", x.best(2, 0), -9);
            Check.execute(x, "need:0,0;waste:4;");
            Check.equal("one month without a need", x.ahead(1, 0, 0, 0), 0);
            Check.equal("the past has other prices", x.value(), 0);
            Cascade full = Check.after("add:9,0,1,9;head:0,0,2;flow:0,0,0,3;flow:0,0,1,3;price:50;waste:70;");
            full.operate(1, 0, 0);
            Check.execute(full, "price:3;waste:4;");
            Check.equal("energy 2, spill 2", full.ahead(1, 0, 0, 0), 6 - 8);
            Check.equal("regret", full.regret(1, 0, 0), 0);
            Check.equal("best of the same", full.best(1, 0), 6 - 8);
        });
    }

    /** Month 999 is one of the fourth of a year; the next year begins with month 1008. */
    private static void beyondMonth999() {
        Cascade x = RefusedEdges.lateAs(999);
        Check.execute(x, "flow:0,0,3,1;flow:0,0,0,4;head:0,0,1;curve:0,3,0;curve:0,4,0;curve:0,5,0;");
        long before = x.account(0, 0);
        Check.equal("storages after the month 999", x.ahead(1, 0, 0, 4), 51);
        Check.equal("energy of a year", x.ahead(12, 0, 0, 1), 30 + 30 + 21);
        Check.equal("storages after a year", x.ahead(12, 0, 0, 4), 4);
        Check.equal("regret", x.regret(24, 0, 0) >= 0, true);
        Check.equal("choose", x.choose(3, 2), 0);
        Check.equal("best", x.best(3, 0), 30 + 30 + 21);
        Check.equal("option", x.option(3, 0, 0, 0), 2);
        Check.equal("reaches", x.reaches(1, 0, 0), 2);
        Check.equal("the month stays", x.count(1), 999);
        Check.equal("so do the accounts", x.account(0, 0), before);
    }

    private static void ahead() {
        Edges.test("Promise 17", "operating the cascade by a plan without doing it", () -> {
            Cascade x = Check.after(PLANS);
            String before = Check.all(x);
            Check.equal("energy", x.ahead(1, 0, 0, 1), 20);
            Check.equal("the state", Check.all(x), before);
            x.operate(1, 0, 0);
            Check.equal("energy when it is done", x.account(0, 5), 20);
            Cascade y = Check.after("add:9,0,1,9;head:0,0,2;need:0,9;flow:0,0,0,8;flow:0,0,1,30;waste:3;");
            y.operate(4, 0, 0);
            long[] past = {y.value(), y.account(0, 5), y.account(0, 2), y.account(0, 4)};
            for (int what = 0; what < 4; what++) {
                Check.equal("the past has another number " + what, past[what] != 0, true);
            }
            Check.equal("value beside that of the past", y.ahead(1, 0, 0, 0), -45);
            Check.equal("energy beside that of the past", y.ahead(1, 0, 0, 1), 0);
            Check.equal("shortages beside those of the past", y.ahead(1, 0, 0, 2), 9);
            Check.equal("spills beside those of the past", y.ahead(1, 0, 0, 3), 0);
            Check.equal("least value beside that of the past", y.score(1, 1, 0), -45);
            Check.equal("sum of values beside that of the past", y.score(1, 2, 0), -180);
            Check.equal("best beside the value of the past", y.best(1, 0), -45);
        });
        Edges.test("Promise 17", "`months`: the number of months, 1 to 24", () -> {
            Cascade x = Check.after("add:9,0,0,0;need:0,1;");
            Check.equal("1", x.ahead(1, 0, 0, 2), 1);
            Check.equal("24", x.ahead(24, 0, 0, 2), 24);
        });
        Edges.test("Promise 17", "`scenario`: the scenario, 0 to 4", () -> {
            Cascade x = Check.after("add:99,0,0,0;",
                    "flow:0,0,0,10;flow:1,0,0,20;flow:2,0,0,30;flow:3,0,0,40;");
            for (int scenario = 0; scenario < 5; scenario++) {
                int due = new int[] {10, 20, 30, 40, 25}[scenario];
                Check.equal("scenario " + scenario, x.ahead(1, scenario, 0, 4), due);
            }
        });
        Edges.test("Promise 17", "- `plan`: the plan", () -> {
            for (int plan = 0; plan < 4; plan++) {
                Check.equal("plan " + plan, Check.after(PLANS).ahead(1, 0, plan, 0), new int[] {20, 40, 60, 0}[plan]);
            }
        });
        Edges.test("Promise 17", "0 for the value, 1 for the energy, 2 for the shortages, 3 for the spills,"
                + " 4 for the sum of the storages at the end", () -> {
            // 9 are short above, where nothing is; below, 5 are released with a head of 2, and 4 of 12 are spilt.
            Cascade x = Check.after("add:9,9,9,0;add:8,0,5,8;need:0,9;head:1,0,2;flow:0,1,0,9;",
                    "penalty:2;waste:3;" + NO_DROUGHT);
            long[] dues = {10 - 18 - 12, 10, 9, 4, 8};
            for (int what = 0; what < 5; what++) {
                Check.equal("what " + what, x.ahead(1, 0, 0, what), dues[what]);
            }
            Cascade three = Check.after("add:9,0,2,9;add:90,0,3,50;add:9,0,4,5;curve:0,0,0;curve:1,0,0;");
            Check.equal("storages of three", three.ahead(1, 0, 0, 4), 7 + (50 + 2 - 3) + (5 + 3));
        });
        Edges.test("Promise 17", "5 for the number of months with a stage greater than 0", () -> {
            // The fillings are 51, 50, 49, 48, 50 and 49.
            Cascade x = Check.after("add:100,0,0,51;need:0,1;flow:0,0,3,3;stage:1,50,100;");
            int[] dues = {0, 0, 1, 2, 2, 3};
            for (int months = 1; months <= 6; months++) {
                Check.equal("of " + months, x.ahead(months, 0, 0, 5), dues[months - 1]);
            }
            Check.equal("a higher stage", Check.after("add:100,0,0,10;").ahead(3, 0, 0, 5), 3);
        });
        Edges.test("Promise 17", "Throws `IndexOutOfBoundsException` if there is no such scenario or plan", () -> {
            Cascade x = Check.after(PLANS);
            Edges.bounds(x, 0, 4, Check.INDEX, scenario -> () -> x.ahead(1, scenario, 0, 0));
            Edges.bounds(x, 0, 3, Check.INDEX, plan -> () -> x.ahead(1, 0, plan, 0));
        });
        Edges.test("Promise 17", "Throws `IllegalArgumentException` if months or what is out of range", () -> {
            Cascade x = Check.after(PLANS);
            Edges.bounds(x, 1, 24, Check.ARGUMENT, months -> () -> x.ahead(months, 0, 0, 0));
            Edges.bounds(x, 0, 5, Check.ARGUMENT, what -> () -> x.ahead(1, 0, 0, what));
        });
    }

    private static void regret() {
        Edges.test("Promise 18",
                "the greatest value of the four plans for these months and this scenario, minus its own", () -> {
            Cascade x = Check.after(PLANS);
            for (int plan = 0; plan < 4; plan++) {
                Check.equal("plan " + plan, x.regret(1, 0, plan), new int[] {40, 20, 0, 60}[plan]);
            }
            for (int greatest = 0; greatest < 4; greatest++) {
                Cascade y = Check.after(PLANS,
                        "factor:0,120;factor:1,120;factor:2,120;factor:" + greatest + ",0;");
                for (int plan = 0; plan < 4; plan++) {
                    int due = plan == greatest ? 0 : 100;
                    Check.equal("plan " + plan + " beside " + greatest, y.regret(1, 0, plan), due);
                }
            }
            Check.equal("values below 0", Check.after("add:9,0,0,0;need:0,9;").regret(24, 0, 3), 0);
        });
        Edges.test("Promise 18", "`months`: the number of months, 1 to 24", () -> {
            Cascade x = Check.after("add:100,0,9,0;head:0,0,1;",
                    "factor:1,0;factor:0,200;factor:2,200;factor:3,200;");
            Check.execute(x, "flow:0,0,0,1;flow:0,0,11,4;");
            Check.equal("1", x.regret(1, 0, 0), 1);
            Check.equal("12", x.regret(12, 0, 0), 5);
            Check.equal("23", x.regret(23, 0, 0), 6);
            Check.equal("24", x.regret(24, 0, 0), 10);
        });
        Edges.test("Promise 18", "`scenario`: the scenario, 0 to 4", () -> {
            Cascade x = Check.after("add:100,0,99,0;head:0,0,1;",
                    "factor:1,0;factor:0,200;factor:2,200;factor:3,200;");
            Check.execute(x, "flow:0,0,0,10;flow:1,0,0,20;flow:2,0,0,30;flow:3,0,0,40;");
            for (int scenario = 0; scenario < 5; scenario++) {
                int due = new int[] {10, 20, 30, 40, 25}[scenario];
                Check.equal("scenario " + scenario, x.regret(1, scenario, 0), due);
            }
        });
        Edges.test("Promise 18", "- `plan`: the plan", () -> {
            Check.equal("plan 0", Check.after(PLANS).regret(1, 0, 0), 40);
            Check.equal("plan 3", Check.after(PLANS).regret(1, 0, 3), 60);
        });
        Edges.test("Promise 18", "Throws `IndexOutOfBoundsException` if there is no such scenario or plan", () -> {
            Cascade x = Check.after(PLANS);
            Edges.bounds(x, 0, 4, Check.INDEX, scenario -> () -> x.regret(1, scenario, 0));
            Edges.bounds(x, 0, 3, Check.INDEX, plan -> () -> x.regret(1, 0, plan));
        });
        Edges.test("Promise 18", "Throws `IllegalArgumentException` if months is out of range", () -> {
            Cascade x = Check.after(PLANS);
            Edges.bounds(x, 1, 24, Check.ARGUMENT, months -> () -> x.regret(months, 0, 0));
        });
    }

    /** Only this scenario brings water, 50; a plan with a factor of 0 releases it, the others keep it. */
    private static Cascade oneScenario(int scenario) {
        Cascade x = Check.after("add:100,0,99,0;head:0,0,1;factor:0,200;factor:1,200;factor:2,200;");
        Check.execute(x, "factor:3,0;flow:" + scenario + ",0,0,50;");
        return x;
    }

    /**
     * The plans 0 to 3 keep 40, 20, 2 and 10 in month 0. In month 1, what lacks of 40 costs 5 each in the scenarios 0
     * and 3, and what was kept costs 3 each in scenario 1, and 60 more of it in scenario 2.
     */
    private static Cascade ways() {
        return Check.after("add:100,0,60,100;need:0,40;curve:0,0,100;curve:0,1,9999;factor:0,40;",
                "factor:1,20;factor:2,2;factor:3,10;waste:3;flow:1,0,1,200;flow:2,0,1,260;", NO_DROUGHT);
    }

    private static void choose() {
        Edges.test("Promise 19", "by the scenarios 0 to 3", () -> {
            for (int scenario = 0; scenario < 4; scenario++) {
                Check.equal("by regret, scenario " + scenario, oneScenario(scenario).choose(1, 0), 3);
                Check.equal("by the sum, scenario " + scenario, oneScenario(scenario).choose(1, 2), 3);
            }
            Check.equal("by the least value, three have none", oneScenario(0).choose(1, 1), 0);
        });
        Edges.test("Promise 19", "`months`: the number of months, 1 to 24", () -> {
            Cascade x = Check.after("add:100,0,99,0;head:0,0,1;factor:0,200;factor:1,200;factor:2,200;");
            Check.execute(x, "factor:3,0;flow:0,0,11,9;");
            Check.equal("1", x.choose(1, 2), 0);
            Check.equal("11", x.choose(11, 2), 0);
            Check.equal("12", x.choose(12, 2), 3);
            Check.equal("24", x.choose(24, 2), 3);
        });
        Edges.test("Promise 19", "0 for the plan whose greatest regret is least", () ->
                Check.equal("way 0", ways().choose(2, 0), 1));
        Edges.test("Promise 19", "1 for that whose least value is greatest", () ->
                Check.equal("way 1", ways().choose(2, 1), 2));
        Edges.test("Promise 19", "2 for that whose sum of values is greatest", () ->
                Check.equal("way 2", ways().choose(2, 2), 0));
        Edges.test("Promise 19", "of several, the lowest one", () -> {
            for (int way = 0; way < 3; way++) {
                Check.equal("all are equal, way " + way, Check.after("add:9,0,9,9;").choose(1, way), 0);
                Cascade two = Check.after(PLANS + "factor:0,120;factor:1,0;factor:2,120;", "factor:3,0;");
                Check.equal("1 and 3 are equal, way " + way, two.choose(1, way), 1);
                Cascade last = Check.after(PLANS + "factor:0,120;factor:1,120;factor:2,0;", "factor:3,0;");
                Check.equal("2 and 3 are equal, way " + way, last.choose(1, way), 2);
            }
        });
        Edges.test("Promise 19", "Throws `IllegalArgumentException` if months or way is out of range", () -> {
            Cascade x = Check.after(PLANS);
            Edges.bounds(x, 1, 24, Check.ARGUMENT, months -> () -> x.choose(months, 0));
            Edges.bounds(x, 0, 2, Check.ARGUMENT, way -> () -> x.choose(1, way));
        });
    }

    private static void score() {
        Edges.test("Promise 20", "`months`: the number of months, 1 to 24", () -> {
            Cascade x = Check.after("add:9,0,0,0;need:0,1;penalty:1;");
            Check.equal("1", x.score(1, 1, 0), -1);
            Check.equal("24", x.score(24, 1, 0), -24);
        });
        Edges.test("Promise 20", "0 for its greatest regret, 1 for its least value, 2 for its sum of values", () -> {
            for (int way = 0; way < 3; way++) {
                for (int plan = 0; plan < 4; plan++) {
                    Check.equal("way " + way + ", plan " + plan, ways().score(2, way, plan), SCORES[way][plan]);
                }
            }
        });
        Edges.test("Promise 20", "over the scenarios 0 to 3", () -> {
            for (int scenario = 0; scenario < 4; scenario++) {
                Cascade x = oneScenario(scenario);
                Check.equal("greatest regret, scenario " + scenario, x.score(1, 0, 0), 50);
                Check.equal("sum, scenario " + scenario, x.score(1, 2, 3), 50);
                Cascade flood = Check.after("add:9,0,0,9;waste:1;flow:" + scenario + ",0,0,8;");
                Check.equal("least value, scenario " + scenario, flood.score(1, 1, 0), -8);
                Check.equal("sum of a flood, scenario " + scenario, flood.score(1, 2, 0), -8);
            }
        });
        Edges.test("Promise 20", "- `plan`: the plan", () -> {
            Cascade x = Check.after(PLANS);
            for (int plan = 0; plan < 4; plan++) {
                Check.equal("plan " + plan, x.score(1, 2, plan), new int[] {80, 160, 240, 0}[plan]);
            }
        });
        Edges.test("Promise 20", "Throws `IndexOutOfBoundsException` if there is no such plan", () -> {
            Cascade x = Check.after(PLANS);
            Edges.bounds(x, 0, 3, Check.INDEX, plan -> () -> x.score(1, 0, plan));
        });
        Edges.test("Promise 20", "Throws `IllegalArgumentException` if months or way is out of range", () -> {
            Cascade x = Check.after(PLANS);
            Edges.bounds(x, 1, 24, Check.ARGUMENT, months -> () -> x.score(months, 0, 0));
            Edges.bounds(x, 0, 2, Check.ARGUMENT, way -> () -> x.score(1, way, 0));
        });
    }

    private static void best() {
        Edges.test("Promise 21", "`months`: the number of months, 1 to 3", () -> {
            Cascade x = Check.after("add:90,0,4,90;head:0,0,2;");
            Check.equal("1", x.best(1, 0), 8);
            Check.equal("3", x.best(3, 0), 24);
        });
        Edges.test("Promise 21", "`scenario`: the scenario, 0 to 4", () -> {
            Cascade x = Check.after("add:99,0,99,0;head:0,0,1;", "flow:0,0,0,10;flow:1,0,0,20;flow:2,0,0,30;");
            Check.execute(x, "flow:3,0,0,40;");
            for (int scenario = 0; scenario < 5; scenario++) {
                Check.equal("scenario " + scenario, x.best(1, scenario), new int[] {10, 20, 30, 40, 25}[scenario]);
            }
        });
        Edges.test("Promise 21", "Throws `IndexOutOfBoundsException` if there is no such scenario", () -> {
            Cascade x = Check.after(PLANS);
            Edges.bounds(x, 0, 4, Check.INDEX, scenario -> () -> x.best(1, scenario));
        });
        Edges.test("Promise 21", "Throws `IllegalArgumentException` if months is out of range", () -> {
            Cascade x = Check.after(PLANS);
            Edges.bounds(x, 1, 3, Check.ARGUMENT, months -> () -> x.best(months, 0));
        });
        Edges.test("Promise 21", "Throws `IllegalStateException` if there are no reservoirs", () -> {
            Cascade x = new Cascade();
            Check.raises("none", Check.STATE, x, () -> x.best(1, 0));
            Check.execute(x, "add:1,0,0,0;");
            Edges.answers("one", () -> x.best(1, 0));
        });
    }

    private static void option() {
        Edges.test("Promise 22", "`months`: the number of months, 1 to 3", () -> {
            Cascade x = Check.after("add:9,0,5,5;head:0,0,1;");
            Check.equal("the last of 1", x.option(1, 0, 0, 0), 2);
            Check.equal("the last of 3", x.option(3, 0, 2, 0), 2);
            Check.equal("the first of 3", x.option(3, 0, 0, 0), 0);
        });
        Edges.test("Promise 22", "`scenario`: the scenario, 0 to 4", () -> {
            Cascade x = Check.after("add:99,0,40,0;head:0,0,1;", "flow:1,0,0,20;flow:2,0,0,21;flow:3,0,0,40;");
            for (int scenario = 0; scenario < 5; scenario++) {
                Check.equal("scenario " + scenario, x.option(1, scenario, 0, 0), new int[] {0, 1, 2, 2, 1}[scenario]);
            }
        });
        Edges.test("Promise 22", "`month`: the month from the present one, 0 to months - 1", () -> {
            Cascade x = Check.after("add:99,0,40,0;head:0,0,1;flow:0,0,3,20;flow:0,0,4,0;flow:0,0,5,90;");
            x.operate(3, 1, 0);
            Check.equal("0 of 3", x.option(3, 0, 0, 0), 0);
            Check.equal("1 of 3", x.option(3, 0, 1, 0), 1);
            Check.equal("2 of 3", x.option(3, 0, 2, 0), 2);
            Check.equal("0 of 1", x.option(1, 0, 0, 0), 1);
        });
        Edges.test("Promise 22", "- `reservoir`: the reservoir", () -> {
            Cascade x = Check.after("add:9,0,4,0;add:9,0,4,2;add:9,0,4,9;head:0,0,1;head:1,0,1;head:2,0,1;");
            for (int r = 0; r < 3; r++) {
                Check.equal("reservoir " + r, x.option(1, 0, 0, r), r);
            }
        });
        Edges.test("Promise 22", "Throws `IndexOutOfBoundsException` if there is no such scenario or reservoir,"
                + " or month is not from 0 to months - 1", () -> {
            Cascade x = Check.after("add:9,0,4,0;add:9,0,4,2;");
            Edges.bounds(x, 0, 4, Check.INDEX, scenario -> () -> x.option(1, scenario, 0, 0));
            Edges.bounds(x, 0, 1, Check.INDEX, r -> () -> x.option(1, 0, 0, r));
            for (int months = 1; months <= 3; months++) {
                int all = months;
                Edges.bounds(x, 0, months - 1, Check.INDEX, month -> () -> x.option(all, 0, month, 0));
            }
            Check.raises("month 0 of none", Check.INDEX, x, () -> x.option(0, 0, 0, 0));
            Cascade empty = new Cascade();
            Check.raises("reservoir 0 of none", Check.INDEX, empty, () -> empty.option(1, 0, 0, 0));
        });
        Edges.test("Promise 22", "Throws `IllegalArgumentException` if months is out of range", () -> {
            Cascade x = Check.after("add:9,0,4,0;");
            Check.raises("4", Check.ARGUMENT, x, () -> x.option(4, 0, 0, 0));
            Check.raises("4, its last month", Check.ARGUMENT, x, () -> x.option(4, 0, 3, 0));
            Check.raises("the most", Check.ARGUMENT, x, () -> x.option(Integer.MAX_VALUE, 0, 3, 0));
            Edges.answers("3", () -> x.option(3, 0, 2, 0));
        });
    }
}
