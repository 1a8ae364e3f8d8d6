/** Promises 5 to 8, 12 and 28: reservoir, head, target, inflow, stage, count. */
public final class SettingsTest {
    public static void main(String[] args) {
        reservoirs();
        heads();
        targets();
        inflows();
        stages();
        counts();
        Check.finish("SettingsTest");
    }

    private static void reservoirs() {
        Cascade x = Check.after("add:100,20,50,80;add:9999,9999,999,0;need:0,7;least:0,8;head:0,80,9;");
        int[] first = {100, 20, 50, 80, 7, 8, 1, 9};
        int[] second = {9999, 9999, 999, 0, 0, 0, 0, 0};
        for (int what = 0; what < 8; what++) {
            Check.equal("reservoir 0, " + what, x.reservoir(0, what), first[what]);
            Check.equal("reservoir 1, " + what, x.reservoir(1, what), second[what]);
        }
        Check.raises("reservoir -1", Check.INDEX, x, () -> x.reservoir(-1, 0));
        Check.raises("reservoir 2", Check.INDEX, x, () -> x.reservoir(2, 9));
        Check.raises("reservoir least", Check.INDEX, x, () -> x.reservoir(Integer.MIN_VALUE, 0));
        Check.raises("reservoir, what -1", Check.ARGUMENT, x, () -> x.reservoir(0, -1));
        Check.raises("reservoir, what 8", Check.ARGUMENT, x, () -> x.reservoir(0, 8));
    }

    private static void heads() {
        Cascade x = Check.after("add:100,0,50,70;head:0,60,5;head:0,10,2;head:0,9999,7;head:0,30,3;");
        int[] storages = {0, 9, 10, 29, 30, 59, 60, 61, 9998, 9999};
        int[] dues = {0, 0, 2, 2, 3, 3, 5, 5, 5, 7};
        for (int i = 0; i < storages.length; i++) {
            Check.equal("head at " + storages[i], x.head(0, storages[i]), dues[i]);
        }
        Check.equal("head at the storage", x.reservoir(0, 7), 5);
        Check.execute(x, "head:0,60,99;head:0,0,1;");
        Check.equal("head replaced", x.head(0, 60), 99);
        Check.equal("head at level 0", x.head(0, 0), 1);
        Check.equal("entries", x.reservoir(0, 6), 5);
        Check.raises("head of no reservoir", Check.INDEX, x, () -> x.head(1, -1));
        Check.raises("head of reservoir -1", Check.INDEX, x, () -> x.head(-1, 0));
        Check.raises("head at -1", Check.ARGUMENT, x, () -> x.head(0, -1));
        Check.raises("head at 10000", Check.ARGUMENT, x, () -> x.head(0, 10000));
    }

    private static void targets() {
        Cascade x = Check.after("add:101,0,50,70;curve:0,0,55;curve:0,11,9999;curve:0,5,0;");
        int[] byPlan = {55, 44, 33, 66};
        int[] byPlanAtFirst = {101, 80, 60, 101};
        int[] byPlanAbove = {101, 101, 101, 101};
        for (int plan = 0; plan < 4; plan++) {
            Check.equal("target in month 0, plan " + plan, x.target(0, 0, plan), byPlan[plan]);
            Check.equal("target in month 1, plan " + plan, x.target(0, 1, plan), byPlanAtFirst[plan]);
            Check.equal("target in month 11, plan " + plan, x.target(0, 11, plan), byPlanAbove[plan]);
            Check.equal("target in month 5, plan " + plan, x.target(0, 5, plan), 0);
        }
        Check.execute(x, "factor:0,0;factor:1,200;factor:2,99;");
        Check.equal("target by factor 0", x.target(0, 0, 0), 0);
        Check.equal("target by factor 200", x.target(0, 0, 1), 101);
        Check.equal("target rounded down", x.target(0, 0, 2), 54);
        Check.raises("target of reservoir 1", Check.INDEX, x, () -> x.target(1, 0, 0));
        Check.raises("target of reservoir -1", Check.INDEX, x, () -> x.target(-1, 0, 0));
        Check.raises("target in month 12", Check.INDEX, x, () -> x.target(0, 12, 0));
        Check.raises("target in month -1", Check.INDEX, x, () -> x.target(0, -1, 0));
        Check.raises("target by plan 4", Check.INDEX, x, () -> x.target(0, 0, 4));
        Check.raises("target by plan -1", Check.INDEX, x, () -> x.target(0, 0, -1));
    }

    private static void inflows() {
        Cascade x = Check.after("add:100,0,50,70;add:100,0,50,70;flow:0,1,3,10;flow:1,1,3,999;flow:2,1,3,1;",
                "flow:3,1,3,1;flow:0,0,11,3;");
        int[] dues = {10, 999, 1, 1, 252};
        for (int scenario = 0; scenario < 5; scenario++) {
            Check.equal("inflow of scenario " + scenario, x.inflow(scenario, 1, 3), dues[scenario]);
            Check.equal("inflow not given, " + scenario, x.inflow(scenario, 0, 3), 0);
        }
        Check.equal("inflow in month 11", x.inflow(0, 0, 11), 3);
        Check.equal("mean rounded down", x.inflow(4, 0, 11), 0);
        Check.raises("inflow of scenario 5", Check.INDEX, x, () -> x.inflow(5, 0, 0));
        Check.raises("inflow of scenario -1", Check.INDEX, x, () -> x.inflow(-1, 0, 0));
        Check.raises("inflow of reservoir 2", Check.INDEX, x, () -> x.inflow(0, 2, 0));
        Check.raises("inflow of reservoir -1", Check.INDEX, x, () -> x.inflow(0, -1, 0));
        Check.raises("inflow in month 12", Check.INDEX, x, () -> x.inflow(0, 0, 12));
        Check.raises("inflow in month -1", Check.INDEX, x, () -> x.inflow(0, 0, -1));
    }

    private static int stageAt(int storage, String settings) {
        return Check.after("add:100,0,0," + storage + ";" + settings).stage();
    }

    private static void stages() {
        int[] storages = {0, 14, 15, 29, 30, 49, 50, 100};
        int[] dues = {3, 3, 2, 2, 1, 1, 0, 0};
        for (int i = 0; i < storages.length; i++) {
            Check.equal("stage at " + storages[i], stageAt(storages[i], ""), dues[i]);
        }
        Check.equal("the highest stage counts", stageAt(60, "stage:3,61,0;"), 3);
        Check.equal("a stage without a threshold", stageAt(14, "stage:3,0,0;stage:2,0,0;"), 1);
        Check.equal("no stage", stageAt(0, "stage:3,0,0;stage:2,0,0;stage:1,0,0;"), 0);
        Check.equal("threshold 100 at 99", stageAt(99, "stage:2,100,0;"), 2);
        Check.equal("threshold 100 at 100", stageAt(100, "stage:2,100,0;"), 0);
        Check.equal("stage without reservoirs", Check.after("stage:3,0,0;").stage(), 2);
        Check.equal("filling rounded down", Check.after("add:9999,0,0,4999;").stage(), 1);
        Check.equal("filling of all", Check.after("add:100,0,0,100;add:300,0,0,19;").stage(), 2);
    }

    private static void counts() {
        Cascade x = Check.after("add:100,0,50,33;add:50,0,50,16;price:7;penalty:8;waste:9;factor:0,1;",
                "factor:1,2;factor:2,3;factor:3,4;stage:1,11,14;stage:2,12,15;stage:3,13,16;");
        x.operate(5, 0, 0);
        Check.append(x, "abcde");
        int[] whats = {0, 1, 3, 4, 5, 6, 7, 10, 11, 12, 13, 21, 22, 23, 31, 32, 33};
        int[] dues = {2, 5, 3, 5, 7, 8, 9, 1, 2, 3, 4, 11, 12, 13, 14, 15, 16};
        for (int i = 0; i < whats.length; i++) {
            Check.equal("count " + whats[i], x.count(whats[i]), dues[i]);
        }
        Check.equal("filling", Check.after("add:100,0,50,33;add:50,0,50,16;").count(2), 32);
        int[] none = {-1, 8, 9, 14, 19, 20, 24, 29, 30, 34, 100, Integer.MIN_VALUE, Integer.MAX_VALUE};
        for (int what : none) {
            Check.raises("count " + what, Check.ARGUMENT, x, () -> x.count(what));
        }
    }
}
