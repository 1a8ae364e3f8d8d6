import java.util.Random;

/** Promises 17 to 22: ahead, regret, choose, score, best, option. */
public final class AheadTest {
    private static final String RESERVOIRS = "add:200,20,40,150;add:120,10,60,70;need:0,12;need:1,25;head:0,0,2;";
    private static final String MORE = "head:0,100,4;head:1,50,3;curve:0,1,90;curve:1,2,60;least:1,6;waste:1;price:2;";
    private static final String[] FLOWS = {
        "flow:0,0,0,30;flow:0,1,0,15;flow:0,0,1,60;flow:0,1,2,9;flow:0,0,3,99;",
        "flow:1,0,0,5;flow:1,1,1,3;flow:1,0,4,11;flow:1,1,5,2;",
        "flow:2,0,0,90;flow:2,1,0,90;flow:2,0,1,90;flow:2,1,1,80;flow:2,0,7,50;",
    };

    public static void main(String[] args) {
        aheadByHand();
        aheadCountsNothingOfThePast();
        aheadIsOperateOnATwin();
        aheadWithoutReservoirs();
        aheadRefuses();
        regretsByHand();
        regretsAgainstPlan0();
        regretsAndScoresFollowValues();
        choosing();
        regretRefuses();
        bestByHand();
        bestOfAllTried();
        equalValuesTakeTheLeastOptions();
        bestRefuses();
        lookingChangesNothing();
        Check.finish("AheadTest");
    }

    private static Cascade cascade() {
        Cascade x = Check.after(RESERVOIRS, MORE);
        for (String text : FLOWS) {
            Check.execute(x, text);
        }
        return x;
    }

    private static void aheadByHand() {
        Cascade x = Check.after("add:100,20,50,100;need:0,40;stage:3,10,0;");
        long[] dues = {-800, 0, 160, 0, 20, 4};
        for (int what = 0; what < 6; what++) {
            Check.equal("ahead " + what, x.ahead(6, 0, 0, what), dues[what]);
        }
        Check.equal("months with a stage, the first two", x.ahead(2, 0, 0, 5), 0);
        Check.equal("months with a stage, the first three", x.ahead(3, 0, 0, 5), 1);
    }

    private static void aheadCountsNothingOfThePast() {
        Cascade x = Check.after("add:10,0,5,10;head:0,0,2;need:0,4;flow:0,0,0,50;flow:0,0,2,19;waste:1;");
        x.operate(2, 0, 0);
        Check.equal("value of the past", x.value(), 10 - 41);
        Check.execute(x, "stage:3,61,0;curve:0,2,4;");
        // Scenario 0 brings 19 to the 6 that are left: 5 are released, 10 kept and 10 spilt, and 4 are short.
        long[] dues = {10 - 4 * 5 - 10, 10, 4, 10, 10, 1};
        for (int what = 0; what < 6; what++) {
            Check.equal("ahead from month 2, " + what, x.ahead(1, 0, 0, what), dues[what]);
        }
        // The others bring nothing: 2 are released.
        Check.equal("least value ahead", x.score(1, 1, 0), -20);
        Check.equal("sum of values ahead", x.score(1, 2, 0), -20 + 3 * (4 - 20));
        Check.equal("best ahead", x.best(1, 0), -20);
    }

    private static void aheadIsOperateOnATwin() {
        int[] lengths = {1, 2, 7, 12, 24};
        for (int months : lengths) {
            for (int scenario = 0; scenario < 5; scenario++) {
                for (int plan = 0; plan < 4; plan++) {
                    twin(months, scenario, plan);
                }
            }
        }
    }

    private static void twin(int months, int scenario, int plan) {
        Cascade x = cascade();
        Check.execute(x, "add:70,5,9,40;need:2,11;head:2,9,8;flow:0,2,4,30;");
        x.operate(3, 1, 2);
        long value = x.value();
        int[] sums = {5, 2, 4};
        long[] before = new long[3];
        long[] seen = new long[6];
        for (int what = 0; what < 6; what++) {
            seen[what] = x.ahead(months, scenario, plan, what);
        }
        for (int i = 0; i < 3; i++) {
            before[i] = x.account(-1, sums[i]);
        }
        int dry = 0;
        for (int i = 0; i < months; i++) {
            dry += x.stage() > 0 ? 1 : 0;
            x.operate(1, scenario, plan);
        }
        String name = "ahead " + months + " months by " + scenario + ", " + plan;
        Check.equal(name + ": value", seen[0], x.value() - value);
        for (int i = 0; i < 3; i++) {
            Check.equal(name + ": sum " + i, seen[i + 1], x.account(-1, sums[i]) - before[i]);
        }
        Check.equal(name + ": storages", seen[4], x.reservoir(0, 3) + x.reservoir(1, 3) + x.reservoir(2, 3));
        Check.equal(name + ": dry months", seen[5], dry);
    }

    private static void aheadWithoutReservoirs() {
        Cascade x = new Cascade();
        for (int what = 0; what < 5; what++) {
            Check.equal("ahead of nothing, " + what, x.ahead(24, 4, 3, what), 0);
        }
        Check.equal("months with a stage of nothing", x.ahead(24, 4, 3, 5), 24);
        Check.equal("regret of nothing", x.regret(3, 4, 3), 0);
        Check.equal("choose of nothing", x.choose(3, 1), 0);
        Check.equal("score of nothing", x.score(3, 2, 3), 0);
        Check.execute(x, "stage:1,0,0;stage:2,0,0;stage:3,0,0;");
        Check.equal("no months with a stage of nothing", x.ahead(24, 4, 3, 5), 0);
    }

    private static void aheadRefuses() {
        Cascade x = cascade();
        Check.raises("ahead by scenario 5", Check.INDEX, x, () -> x.ahead(0, 5, 0, 9));
        Check.raises("ahead by scenario -1", Check.INDEX, x, () -> x.ahead(1, -1, 0, 0));
        Check.raises("ahead by plan 4", Check.INDEX, x, () -> x.ahead(25, 0, 4, 0));
        Check.raises("ahead by plan -1", Check.INDEX, x, () -> x.ahead(1, 0, -1, 0));
        Check.raises("ahead 0 months", Check.ARGUMENT, x, () -> x.ahead(0, 0, 0, 0));
        Check.raises("ahead 25 months", Check.ARGUMENT, x, () -> x.ahead(25, 0, 0, 0));
        Check.raises("ahead what -1", Check.ARGUMENT, x, () -> x.ahead(1, 0, 0, -1));
        Check.raises("ahead what 6", Check.ARGUMENT, x, () -> x.ahead(1, 0, 0, 6));
    }

    /** A target of 50, 40, 30 or 60 lets 10, 20, 30 or nothing flow; with waste, only scenario 1 spills. */
    private static Cascade plans() {
        return Check.after("add:100,0,100,60;head:0,0,2;curve:0,0,50;flow:1,0,0,30;flow:2,0,0,999;waste:3;");
    }

    private static void regretsByHand() {
        Cascade x = plans();
        long[] values = {20, 40, 60, 0};
        long[] regrets = {40, 20, 0, 60};
        for (int plan = 0; plan < 4; plan++) {
            Check.equal("value of plan " + plan, x.ahead(1, 0, plan, 0), values[plan]);
            Check.equal("regret of plan " + plan, x.regret(1, 0, plan), regrets[plan]);
        }
        // Scenario 2 brings 999: all plans release 100 and spill 859, with 200 - 3 * 859 = -2377.
        Check.equal("value of a flood", x.ahead(1, 2, 3, 0), -2377);
        Check.equal("regret in a flood", x.regret(1, 2, 3), 0);
        long[] greatest = {40, 20, 0, 60};
        long[] sums = {20 + 80 - 2377 + 20, 40 + 100 - 2377 + 40, 60 + 120 - 2377 + 60, 60 - 2377};
        for (int plan = 0; plan < 4; plan++) {
            Check.equal("greatest regret of " + plan, x.score(1, 0, plan), greatest[plan]);
            Check.equal("least value of " + plan, x.score(1, 1, plan), -2377);
            Check.equal("sum of values of " + plan, x.score(1, 2, plan), sums[plan]);
        }
        Check.equal("choose by regret", x.choose(1, 0), 2);
        Check.equal("choose on a new object", plans().choose(1, 2), 2);
        Check.equal("choose by the least value, all equal", x.choose(1, 1), 0);
        Check.equal("choose by the sum", x.choose(1, 2), 2);
    }

    /** A factor of 0 lets all 60 flow, the others 20, 30 or nothing. */
    private static void regretsAgainstPlan0() {
        Cascade x = Check.after("add:100,0,100,60;head:0,0,2;curve:0,0,50;factor:0,0;");
        long[] regrets = {0, 80, 60, 120};
        for (int plan = 0; plan < 4; plan++) {
            Check.equal("regret against plan 0 of " + plan, x.regret(1, 0, plan), regrets[plan]);
            Check.equal("greatest regret against plan 0 of " + plan, x.score(1, 0, plan), regrets[plan]);
        }
        Check.equal("choose plan 0", x.choose(1, 0), 0);
    }

    private static void regretsAndScoresFollowValues() {
        int[] lengths = {1, 5, 24};
        for (int months : lengths) {
            Cascade x = cascade();
            long[][] regrets = new long[5][4];
            for (int scenario = 0; scenario < 5; scenario++) {
                long greatest = Long.MIN_VALUE;
                for (int plan = 0; plan < 4; plan++) {
                    greatest = Math.max(greatest, x.ahead(months, scenario, plan, 0));
                }
                for (int plan = 0; plan < 4; plan++) {
                    regrets[scenario][plan] = greatest - x.ahead(months, scenario, plan, 0);
                    Check.equal("regret", x.regret(months, scenario, plan), regrets[scenario][plan]);
                }
            }
            for (int plan = 0; plan < 4; plan++) {
                long regret = 0;
                long least = Long.MAX_VALUE;
                long sum = 0;
                for (int scenario = 0; scenario < 4; scenario++) {
                    long value = x.ahead(months, scenario, plan, 0);
                    regret = Math.max(regret, regrets[scenario][plan]);
                    least = Math.min(least, value);
                    sum += value;
                }
                Check.equal("greatest regret", x.score(months, 0, plan), regret);
                Check.equal("least value", x.score(months, 1, plan), least);
                Check.equal("sum", x.score(months, 2, plan), sum);
            }
        }
    }

    /** The chosen plan is the lowest one with the deciding score. */
    private static void choosing() {
        Random random = new Random(5);
        for (int i = 0; i < 60; i++) {
            Cascade x = cascade();
            for (int plan = 0; plan < 4; plan++) {
                Check.execute(x, "factor:" + plan + "," + 40 * random.nextInt(4) + ";");
            }
            int months = 1 + random.nextInt(24);
            for (int way = 0; way < 3; way++) {
                int due = 0;
                for (int plan = 1; plan < 4; plan++) {
                    long gain = x.score(months, way, plan) - x.score(months, way, due);
                    if (way == 0 ? gain < 0 : gain > 0) {
                        due = plan;
                    }
                }
                Check.equal("choose by way " + way, x.choose(months, way), due);
            }
        }
    }

    private static void regretRefuses() {
        Cascade x = cascade();
        Check.raises("regret by scenario 5", Check.INDEX, x, () -> x.regret(0, 5, 0));
        Check.raises("regret by scenario -1", Check.INDEX, x, () -> x.regret(1, -1, 0));
        Check.raises("regret by plan 4", Check.INDEX, x, () -> x.regret(0, 0, 4));
        Check.raises("regret by plan -1", Check.INDEX, x, () -> x.regret(1, 0, -1));
        Check.raises("regret of 0 months", Check.ARGUMENT, x, () -> x.regret(0, 0, 0));
        Check.raises("regret of 25 months", Check.ARGUMENT, x, () -> x.regret(25, 0, 0));
        Check.raises("choose of 0 months", Check.ARGUMENT, x, () -> x.choose(0, 0));
        Check.raises("choose of 25 months", Check.ARGUMENT, x, () -> x.choose(25, 0));
        Check.raises("choose way -1", Check.ARGUMENT, x, () -> x.choose(1, -1));
        Check.raises("choose way 3", Check.ARGUMENT, x, () -> x.choose(1, 3));
        Check.raises("score of plan 4", Check.INDEX, x, () -> x.score(0, 9, 4));
        Check.raises("score of plan -1", Check.INDEX, x, () -> x.score(1, 0, -1));
        Check.raises("score of 0 months", Check.ARGUMENT, x, () -> x.score(0, 0, 0));
        Check.raises("score of 25 months", Check.ARGUMENT, x, () -> x.score(25, 0, 0));
        Check.raises("score way 3", Check.ARGUMENT, x, () -> x.score(1, 3, 0));
        Check.raises("score way -1", Check.ARGUMENT, x, () -> x.score(1, -1, 0));
    }

    /** With 15 of water and heads of 1 below 10 and of 9 above, the second month is worth more if 15 stay. */
    private static void bestByHand() {
        Cascade x = Check.after("add:20,0,5,15;head:0,0,1;head:0,10,9;stage:1,0,0;");
        Check.equal("best of one month", x.best(1, 0), 45);
        Check.equal("option of one month", x.option(1, 0, 0, 0), 2);
        Check.equal("best of two months", x.best(2, 0), 90);
        Check.equal("best of three months", x.best(3, 0), 95);
        Check.execute(x, "head:0,11,99;");
        // Half of 5 is 2: with 13 left at the second month, its head is 99 still, and at 11 that of the third.
        Check.equal("best with a high head", x.best(3, 0), 2 * 99 + 2 * 99 + 5 * 99);
        int[] dues = {1, 1, 2};
        for (int month = 0; month < 3; month++) {
            Check.equal("option in month " + month, x.option(3, 0, month, 0), dues[month]);
        }
    }

    /** The best releases, found by trying all options by hand. */
    private static void bestOfAllTried() {
        Random random = new Random(11);
        for (int i = 0; i < 40; i++) {
            Cascade x = cascade();
            if (i % 4 == 0) {
                Check.execute(x, "add:50,5," + random.nextInt(30) + ",30;head:2,0,5;need:2,3;");
            }
            Check.execute(x, "waste:" + random.nextInt(9) + ";price:" + random.nextInt(5) + ";");
            x.operate(1 + random.nextInt(20), random.nextInt(5), random.nextInt(4));
            Check.execute(x, "penalty:" + random.nextInt(20) + ";");
            int months = i == 0 ? 3 : 1 + random.nextInt(x.count(0) == 3 ? 2 : 3);
            compareBest(x, months, random.nextInt(5));
        }
    }

    private static void compareBest(Cascade x, int months, int scenario) {
        int size = x.count(0);
        long best = Long.MIN_VALUE;
        int[] options = new int[months * size];
        int[] bestOptions = options;
        do {
            long value = valueByHand(x.twin(), scenario, options);
            if (value > best) {
                best = value;
                bestOptions = options.clone();
            }
        } while (next(options));
        Check.equal("best of " + months + " months", x.best(months, scenario), best);
        for (int i = 0; i < bestOptions.length; i++) {
            Check.equal("option " + i + " of " + months + " months",
                    x.option(months, scenario, i / size, i % size), bestOptions[i]);
        }
    }

    private static long valueByHand(Cascade x, int scenario, int[] options) {
        long before = x.value();
        int size = x.count(0);
        for (int from = 0; from < options.length; from += size) {
            int[] wishes = new int[3];
            for (int r = 0; r < size; r++) {
                int turbine = x.reservoir(r, 2);
                wishes[r] = new int[] {0, turbine / 2, turbine}[options[from + r]];
            }
            x.byHand(scenario, wishes[0], wishes[1], wishes[2]);
        }
        return x.value() - before;
    }

    /** Counts on, the last option fastest; false behind the last sequence. */
    private static boolean next(int[] options) {
        for (int place = options.length - 1; place >= 0; place--) {
            if (options[place] < 2) {
                options[place]++;
                return true;
            }
            options[place] = 0;
        }
        return false;
    }

    private static void equalValuesTakeTheLeastOptions() {
        Cascade x = Check.after("add:100,0,1,50;add:100,0,0,50;add:100,0,40,50;");
        Check.equal("best without heads", x.best(3, 0), 0);
        for (int month = 0; month < 3; month++) {
            for (int r = 0; r < 3; r++) {
                Check.equal("option without heads", x.option(3, 0, month, r), 0);
            }
        }
        Check.execute(x, "head:0,0,3;head:2,0,0001;");
        Check.equal("the turbine of 1 needs option 2", x.option(1, 0, 0, 0), 2);
        Check.equal("the turbine of 0 takes option 0", x.option(1, 0, 0, 1), 0);
        Check.equal("the turbine of 40", x.option(1, 0, 0, 2), 2);
        Cascade low = Check.after("add:100,10,40,30;head:0,0,1;");
        Check.equal("half of the turbine takes all there is", low.option(1, 0, 0, 0), 1);
        Check.equal("its value", low.best(1, 0), 20);
        Check.equal("two months for it: the second one is as good", low.option(2, 0, 0, 0), 0);
        Check.equal("two months for it: then the half", low.option(2, 0, 1, 0), 1);
    }

    private static void bestRefuses() {
        Cascade empty = new Cascade();
        Check.raises("best of nothing", Check.STATE, empty, () -> empty.best(1, 0));
        Check.raises("best of nothing, 4 months", Check.ARGUMENT, empty, () -> empty.best(4, 0));
        Check.raises("option of nothing", Check.INDEX, empty, () -> empty.option(1, 0, 0, 0));
        Cascade x = cascade();
        Check.raises("best by scenario 5", Check.INDEX, x, () -> x.best(0, 5));
        Check.raises("best by scenario -1", Check.INDEX, x, () -> x.best(1, -1));
        Check.raises("best of 0 months", Check.ARGUMENT, x, () -> x.best(0, 0));
        Check.raises("best of 4 months", Check.ARGUMENT, x, () -> x.best(4, 0));
        Check.raises("option by scenario 5", Check.INDEX, x, () -> x.option(1, 5, 0, 0));
        Check.raises("option by scenario -1", Check.INDEX, x, () -> x.option(1, -1, 0, 0));
        Check.raises("option of reservoir 2", Check.INDEX, x, () -> x.option(4, 0, 0, 2));
        Check.raises("option of reservoir -1", Check.INDEX, x, () -> x.option(1, 0, 0, -1));
        Check.raises("option in month 1 of 1", Check.INDEX, x, () -> x.option(1, 0, 1, 0));
        Check.raises("option in month -1", Check.INDEX, x, () -> x.option(4, 0, -1, 0));
        Check.raises("option in month 0 of 0", Check.INDEX, x, () -> x.option(0, 0, 0, 0));
        Check.raises("option in month 4 of 4", Check.INDEX, x, () -> x.option(4, 0, 4, 0));
        Check.raises("option in month 3 of 4", Check.ARGUMENT, x, () -> x.option(4, 0, 3, 0));
        Check.raises("option of the least months", Check.INDEX, x, () -> x.option(Integer.MIN_VALUE, 0, 0, 0));
        Check.raises("option of the most months", Check.ARGUMENT, x, () -> x.option(Integer.MAX_VALUE, 0, 9, 0));
    }

    private static void lookingChangesNothing() {
        Cascade x = cascade();
        x.operate(2, 0, 0);
        String before = Check.all(x);
        x.ahead(24, 2, 1, 0);
        x.regret(24, 2, 1);
        x.choose(24, 0);
        x.score(24, 0, 1);
        x.best(3, 0);
        x.option(3, 0, 2, 1);
        x.reaches(0, 0, 0);
        Check.equal("the state after looking", Check.all(x), before);
    }
}
