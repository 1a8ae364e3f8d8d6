/** The sentences about the cascade, its scenarios, the drought and the plans. */
final class CascadeEdges {
    private static final String ONE = "add:100,20,50,80;";
    private static final int[] TABLE_LEVELS = {60, 10, 9999, 30, 0};
    private static final int[] TABLE_HEADS = {5, 2, 7, 3, 1};

    private CascadeEdges() {
    }

    static void run() {
        cascade();
        tables();
        scenarios();
        drought();
        plans();
    }

    private static void cascade() {
        Edges.test("Cascade", "There are at most 3 reservoirs", CascadeEdges::atMost3);
        Edges.test("Cascade", "numbered from 0 from the highest one to the lowest one", CascadeEdges::numbered);
        Edges.test("Cascade", "comes into the next one in the same month", CascadeEdges::inTheSameMonth);
        Edges.test("Cascade", "what leaves the lowest one leaves the cascade", CascadeEdges::leavesTheLowest);
        Edges.test("Cascade", "a capacity, 1 to 9999", () ->
                Edges.range("", "add:", ",0,0,0;", 1, 9999, x -> x.reservoir(0, 0)));
        Edges.test("Cascade", "a dead storage, 0 to its capacity", () -> {
            Edges.range("", "add:1,", ",0,0;", 0, 1, x -> x.reservoir(0, 1));
            Edges.range("", "add:300,", ",0,0;", 0, 300, x -> x.reservoir(0, 1));
            Edges.range("", "add:9999,", ",0,0;", 0, 9999, x -> x.reservoir(0, 1));
        });
        Edges.test("Cascade", "a turbine, which is the greatest release in a month, 0 to 999", CascadeEdges::turbines);
        Edges.test("Cascade", "and a storage, 0 to its capacity", () -> {
            Edges.range("", "add:1,0,0,", ";", 0, 1, x -> x.reservoir(0, 3));
            Edges.range("", "add:300,20,0,", ";", 0, 300, x -> x.reservoir(0, 3));
            Edges.range("", "add:9999,9999,0,", ";", 0, 9999, x -> x.reservoir(0, 3));
        });
        Edges.test("Cascade", "a need, 0 to 999, at first 0", () -> {
            Check.equal("need at first", Check.after(ONE).reservoir(0, 4), 0);
            Check.equal("need at first, of one added anew", anew().reservoir(0, 4), 0);
            Edges.range(ONE, "need:0,", ";", 0, 999, x -> x.reservoir(0, 4));
        });
        Edges.test("Cascade", "a least release, 0 to 999, at first 0", () -> {
            Check.equal("least release at first", Check.after(ONE).reservoir(0, 5), 0);
            Check.equal("least release at first, of one added anew", anew().reservoir(0, 5), 0);
            Edges.range(ONE, "least:0,", ";", 0, 999, x -> x.reservoir(0, 5));
        });
    }

    private static void tables() {
        Edges.test("Cascade", "a table of heads, with at most 5 entries, none at first", CascadeEdges::atMost5Entries);
        Edges.test("Cascade", "an entry has a level, 0 to 9999", () ->
                Edges.range(ONE, "head:0,", ",7;", 0, 9999, CascadeEdges::levelOfHead7));
        Edges.test("Cascade", "and a head, 1 to 99", () ->
                Edges.range(ONE, "head:0,0,", ";", 1, 99, x -> x.head(0, 0)));
        Edges.test("Cascade", "the entry with the greatest level that is at most the storage",
                CascadeEdges::headsBesideLevels);
        Edges.test("Cascade", "is at most the storage, 0 if there is none", CascadeEdges::headsBelowAllLevels);
        Edges.test("Cascade", "a target for each month of the year, 0 to 11", CascadeEdges::aTargetForEachMonth);
        Edges.test("Cascade", "0 to 11, each 0 to 9999", () -> {
            Edges.range("add:9999,0,0,0;", "curve:0,0,", ";", 0, 9999, x -> x.target(0, 0, 0));
            Edges.range("add:9999,0,0,0;", "curve:0,11,", ";", 0, 9999, x -> x.target(0, 11, 0));
            Edges.done(ONE, "curve:0,3,9999;", 1);
        });
        Edges.test("Cascade", "each 0 to 9999, at first the capacity", CascadeEdges::targetsAtFirst);
    }

    private static void atMost3() {
        Cascade x = Check.after("add:1,0,0,0;add:2,0,0,0;");
        Check.equal("the third", Check.outcome(x, "add:3,0,0,0;"), "1");
        Check.equal("three", x.count(0), 3);
        Check.equal("the fourth", Check.outcome(x, "add:4,0,0,0;"), "error 0");
        Check.equal("still three", x.count(0), 3);
        Check.equal("four at once", Check.outcome(new Cascade(), "add:4,0,0,0;".repeat(4)), "error 36");
    }

    private static void numbered() {
        Cascade x = Check.after("add:11,0,0,0;add:12,0,0,0;add:13,0,0,0;");
        for (int r = 0; r < 3; r++) {
            Check.equal("capacity of " + r, x.reservoir(r, 0), 11 + r);
        }
        Check.raises("reservoir -1", Check.INDEX, x, () -> x.reservoir(-1, 0));
        Check.raises("reservoir 3", Check.INDEX, x, () -> x.reservoir(3, 0));
        Cascade y = Check.after("add:90,0,9,50;add:90,0,9,50;add:90,0,9,50;");
        y.byHand(0, 1, 0, 0);
        y.byHand(0, 0, 2, 0);
        y.byHand(0, 0, 0, 4);
        Check.equal("the highest", y.reservoir(0, 3), 50 - 1);
        Check.equal("the middle one", y.reservoir(1, 3), 50 + 1 - 2);
        Check.equal("the lowest", y.reservoir(2, 3), 50 + 2 - 4);
    }

    /** 40 go through all three in one month, as 35 of a release and 5 of a spill. */
    private static void inTheSameMonth() {
        Cascade x = Check.after("add:9,0,35,9;add:9,0,50,0;add:9,0,50,0;flow:0,0,0,40;");
        x.byHand(0, 35, 50, 50);
        int[] came = {40, 40, 40};
        int[] storages = {9, 0, 0};
        for (int r = 0; r < 3; r++) {
            Check.equal("what came into " + r, x.latest(r, 1), came[r]);
            Check.equal("storage of " + r, x.reservoir(r, 3), storages[r]);
        }
    }

    private static void leavesTheLowest() {
        Cascade x = Check.after("add:90,0,50,40;add:30,0,20,30;flow:0,1,0,25;");
        x.byHand(0, 0, 20, 0);
        Check.equal("release of the lowest", x.latest(1, 4), 20);
        Check.equal("spill of the lowest", x.latest(1, 5), 5);
        Check.equal("storage of the highest", x.reservoir(0, 3), 40);
        Check.execute(x, "add:90,0,50,0;");
        x.byHand(0, 0, 0, 0);
        Check.equal("nothing waited for one that was added later", x.latest(2, 1), 0);
        Check.equal("nor is it in its storage", x.reservoir(2, 3), 0);
    }

    private static void turbines() {
        Edges.range("", "add:9999,0,", ",9999;", 0, 999, x -> x.reservoir(0, 2));
        Edges.range("", "add:9999,0,", ",9999;", 0, 999, CascadeEdges::greatestRelease);
    }

    private static int greatestRelease(Cascade x) {
        x.byHand(0, 9999, 0, 0);
        return x.latest(0, 4);
    }

    private static int levelOfHead7(Cascade x) {
        Cascade beside = x.beside();
        return Edges.where(10000, storage -> beside.head(0, storage), 7);
    }

    private static void atMost5Entries() {
        Cascade x = Check.after(ONE);
        Check.equal("entries at first", x.reservoir(0, 6), 0);
        Check.equal("head at first", x.head(0, 9999), 0);
        Check.equal("entries at first, of one added anew", anew().reservoir(0, 6), 0);
        Check.equal("head at first, of one added anew", anew().head(0, 9999), 0);
        for (int i = 1; i <= 5; i++) {
            Check.equal("entry " + i, Check.outcome(x, "head:0," + i + "," + i + ";"), "1");
            Check.equal("entries", x.reservoir(0, 6), i);
        }
        Check.equal("the sixth", Check.outcome(x, "head:0,6,6;"), "error 9");
        Check.equal("still five", x.reservoir(0, 6), 5);
        Check.equal("the fifth one counts", x.head(0, 9999), 5);
    }

    private static Cascade withTable() {
        StringBuilder text = new StringBuilder();
        for (int i = 0; i < TABLE_LEVELS.length; i++) {
            text.append("head:0,").append(TABLE_LEVELS[i]).append(',').append(TABLE_HEADS[i]).append(';');
        }
        Cascade x = Check.after(ONE);
        Check.execute(x, text.toString());
        return x;
    }

    /** The entries were added in another order than that of their levels. */
    private static void headsBesideLevels() {
        Cascade x = withTable();
        int[] storages = {0, 9, 10, 11, 29, 30, 59, 60, 61, 9998, 9999};
        int[] dues = {1, 1, 2, 2, 2, 3, 3, 5, 5, 5, 7};
        for (int i = 0; i < storages.length; i++) {
            Check.equal("head at " + storages[i], x.head(0, storages[i]), dues[i]);
        }
    }

    private static void headsBelowAllLevels() {
        Cascade x = Check.after(ONE + "head:0,50,9;head:0,40,8;");
        Check.equal("head at 40", x.head(0, 40), 8);
        Check.equal("head at 39", x.head(0, 39), 0);
        Check.equal("head at 0", x.head(0, 0), 0);
        Check.equal("head of an empty table", Check.after(ONE).head(0, 9999), 0);
        Check.equal("head of an empty table at 0", Check.after(ONE).head(0, 0), 0);
    }

    private static void aTargetForEachMonth() {
        Cascade x = Check.after(ONE);
        for (int month = 0; month < 12; month++) {
            Check.equal("month " + month, Check.outcome(x, "curve:0," + month + "," + (10 + month) + ";"), "1");
        }
        for (int month = 0; month < 12; month++) {
            Check.equal("target in month " + month, x.target(0, month, 0), 10 + month);
        }
        Check.equal("month 12", Check.outcome(x, "curve:0,12,10;"), "error 8");
    }

    /** Its reservoir was added and set up before, but this was undone. */
    private static Cascade anew() {
        Cascade x = Check.after("add:300,0,0,0;need:0,7;least:0,7;head:0,0,7;curve:0,0,7;flow:0,0,0,7;");
        x.operate(1, 0, 0);
        x.undo();
        x.undo();
        Check.execute(x, ONE);
        return x;
    }

    private static void targetsAtFirst() {
        Check.equal("target of one added anew", anew().target(0, 0, 0), 100);
        for (int capacity : new int[] {1, 100, 9999}) {
            Cascade x = Check.after("add:" + capacity + ",0,0,0;");
            for (int month = 0; month < 12; month++) {
                Check.equal("target in month " + month, x.target(0, month, 0), capacity);
                Check.equal("target by 80 of 100", x.target(0, month, 1), capacity * 80 / 100);
            }
        }
    }

    private static void scenarios() {
        Edges.test("Scenarios", "There are 4 scenarios, numbered from 0", () ->
                Edges.range(ONE, "flow:", ",0,0,9;", 0, 3, x -> Edges.where(4, s -> x.inflow(s, 0, 0), 9)));
        Edges.test("Scenarios", "an inflow, 0 to 999, at first 0", () -> {
            Edges.range(ONE, "flow:2,0,5,", ";", 0, 999, x -> x.inflow(2, 0, 5));
            for (int scenario = 0; scenario < 5; scenario++) {
                Check.equal("inflow at first", Check.after(ONE).inflow(scenario, 0, 0), 0);
                Check.equal("inflow at first, of one added anew", anew().inflow(scenario, 0, 0), 0);
                Check.equal("inflow of month 11 at first", Check.after(ONE).inflow(scenario, 0, 11), 0);
            }
        });
        Edges.test("Scenarios", "for each reservoir and month of the year", CascadeEdges::eachInflowIsItsOwn);
        Edges.test("Scenarios", "the sum of the four inflows divided by 4 and rounded down", CascadeEdges::means);
    }

    private static int inflowOf(int scenario, int reservoir, int month) {
        return 1 + 240 * scenario + 80 * reservoir + month * month / 2;
    }

    /** An object's calls don't do for the inflows of all four scenarios: each object is given those of one. */
    private static void eachInflowIsItsOwn() {
        for (int scenario = 0; scenario < 4; scenario++) {
            Cascade x = Check.after("add:9,0,0,0;add:9,0,0,0;add:9,0,0,0;");
            for (int i = 0; i < 3 * 12; i++) {
                int inflow = inflowOf(scenario, i / 12, i % 12);
                Check.execute(x, "flow:" + scenario + "," + i / 12 + "," + i % 12 + "," + inflow + ";");
            }
            for (int i = 0; i < 4 * 3 * 12; i++) {
                int due = i / 36 == scenario ? inflowOf(scenario, i / 12 % 3, i % 12) : 0;
                Check.equal("inflow " + i, x.inflow(i / 36, i / 12 % 3, i % 12), due);
            }
            for (int i = 0; i < 3 * 12; i++) {
                Check.equal("mean " + i, x.inflow(4, i / 12, i % 12), inflowOf(scenario, i / 12, i % 12) / 4);
            }
        }
    }

    private static void means() {
        int[][] inflows = {{0, 0, 0, 0}, {0, 0, 0, 3}, {0, 0, 0, 4}, {1, 1, 1, 1}, {1, 2, 2, 2}, {999, 999, 999, 998},
            {999, 999, 999, 999}};
        int[] dues = {0, 0, 1, 1, 1, 998, 999};
        for (int i = 0; i < inflows.length; i++) {
            Cascade x = Check.after("add:9999,0,0,0;");
            for (int scenario = 0; scenario < 4; scenario++) {
                Check.execute(x, "flow:" + scenario + ",0,0," + inflows[i][scenario] + ";");
            }
            Check.equal("mean of set " + i, x.inflow(4, 0, 0), dues[i]);
            x.operate(1, 4, 0);
            Check.equal("what came by the mean of set " + i, x.latest(0, 1), dues[i]);
        }
    }

    private static void drought() {
        Edges.test("Drought",
                "100 times the sum of all storages, divided by the sum of all capacities and rounded down",
                CascadeEdges::fillings);
        Edges.test("Drought", "rounded down, 0 without reservoirs", () ->
                Check.equal("filling", new Cascade().count(2), 0));
        Edges.test("Drought", "There are the stages 0 to 3", () -> {
            Edges.range(ONE, "stage:", ",100,0;", 1, 3, Cascade::stage);
            Check.equal("stage 0", Check.after(ONE).stage(), 0);
        });
        Edges.test("Drought", "have thresholds, 0 to 100", () -> {
            Edges.range("", "stage:1,", ",0;", 0, 100, x -> x.count(21));
            Edges.range("", "stage:2,", ",0;", 0, 100, x -> x.count(22));
            Edges.range("", "stage:3,", ",0;", 0, 100, x -> x.count(23));
        });
        Edges.test("Drought", "at first 50, 30 and 15", CascadeEdges::thresholdsAtFirst);
        Edges.test("Drought", "and shares, 0 to 100", () -> {
            Edges.range("", "stage:1,0,", ";", 0, 100, x -> x.count(31));
            Edges.range("", "stage:2,0,", ";", 0, 100, x -> x.count(32));
            Edges.range("", "stage:3,0,", ";", 0, 100, x -> x.count(33));
        });
        Edges.test("Drought", "at first 80, 60 and 40", CascadeEdges::sharesAtFirst);
        Edges.test("Drought", "the share of stage 0 is 100", CascadeEdges::shareOfStage0);
        Edges.test("Drought", "the highest stage whose threshold is greater than the filling",
                CascadeEdges::thresholdsBesideTheFilling);
        Edges.test("Drought", "the filling at the beginning of this month", CascadeEdges::fillingAtTheBeginning);
        Edges.test("Drought", "of this month, 0 if there is none", () -> {
            String none = "stage:1,0,0;stage:2,0,0;stage:3,0,0;";
            String all = "stage:1,100,0;stage:2,100,0;stage:3,100,0;";
            Check.equal("no threshold above an empty cascade", Check.after("add:9,0,0,0;" + none).stage(), 0);
            Check.equal("no threshold above a full cascade", Check.after("add:9,0,0,9;" + all).stage(), 0);
        });
    }

    private static void fillings() {
        String[] texts = {"add:3,0,0,0;", "add:3,0,0,1;", "add:3,0,0,2;", "add:3,0,0,3;", "add:9999,0,0,99;",
            "add:9999,0,0,100;", "add:9999,0,0,9998;", "add:1,0,0,1;add:2,0,0,0;add:3,0,0,1;",
            "add:9999,0,0,9999;add:9999,0,0,9999;add:9999,0,0,9998;",
            "add:9999,0,0,9999;add:9999,0,0,9999;add:9999,0,0,9999;"};
        int[] dues = {0, 33, 66, 100, 0, 1, 99, 33, 99, 100};
        for (int i = 0; i < texts.length; i++) {
            Check.equal("filling after " + texts[i], Check.after(texts[i]).count(2), dues[i]);
        }
    }

    private static int stageAt(int filling, String settings) {
        return Check.after("add:100,0,0," + filling + ";" + settings).stage();
    }

    private static void thresholdsAtFirst() {
        int[] fillings = {50, 49, 30, 29, 15, 14, 0};
        int[] dues = {0, 1, 1, 2, 2, 3, 3};
        for (int i = 0; i < fillings.length; i++) {
            Check.equal("stage at " + fillings[i], stageAt(fillings[i], ""), dues[i]);
        }
        for (int k = 1; k <= 3; k++) {
            Check.equal("threshold of " + k, new Cascade().count(20 + k), new int[] {50, 30, 15}[k - 1]);
        }
    }

    private static int supplyAt(int filling, String settings) {
        Cascade x = Check.after("add:9999,0,0," + filling * 100 + ";need:0,10;" + settings);
        x.operate(1, 0, 0);
        return x.latest(0, 2);
    }

    private static void sharesAtFirst() {
        int[] fillings = {60, 40, 20, 10};
        int[] dues = {10, 8, 6, 4};
        for (int i = 0; i < fillings.length; i++) {
            Check.equal("supply at " + fillings[i], supplyAt(fillings[i], ""), dues[i]);
        }
        for (int k = 1; k <= 3; k++) {
            Check.equal("share of " + k, new Cascade().count(30 + k), 100 - 20 * k);
        }
    }

    private static void shareOfStage0() {
        Check.equal("supply at stage 0", supplyAt(60, "stage:1,50,0;stage:2,30,0;stage:3,15,0;"), 10);
        Edges.error("", "stage:0,50,80;", 6);
        Check.equal("no supply at stage 1", supplyAt(40, "stage:1,50,0;"), 0);
    }

    private static void thresholdsBesideTheFilling() {
        for (int k = 1; k <= 3; k++) {
            String others = "stage:1,0,0;stage:2,0,0;stage:3,0,0;stage:" + k;
            Check.equal("threshold of " + k + " at the filling", stageAt(40, others + ",40,0;"), 0);
            Check.equal("threshold of " + k + " above the filling", stageAt(40, others + ",41,0;"), k);
        }
        Check.equal("all are greater", stageAt(40, "stage:1,41,0;stage:2,41,0;stage:3,41,0;"), 3);
        Check.equal("two are greater", stageAt(40, "stage:1,99,0;stage:2,41,0;stage:3,40,0;"), 2);
        Check.equal("the highest alone is greater", stageAt(40, "stage:1,0,0;stage:2,0,0;stage:3,100,0;"), 3);
    }

    /** What comes in and goes out in the month changes its stage no more. */
    private static void fillingAtTheBeginning() {
        Cascade wet = Check.after("add:100,0,0,49;add:100,0,0,50;need:0,10;need:1,10;flow:0,0,0,51;");
        wet.operate(1, 0, 0);
        Check.equal("supply of 0 in stage 1", wet.latest(0, 2), 8);
        Check.equal("supply of 1 in stage 1", wet.latest(1, 2), 8);
        Check.equal("stage of the next month", wet.stage(), 0);
        Cascade dry = Check.after("add:100,0,0,50;add:100,0,0,50;need:0,50;need:1,50;");
        dry.operate(1, 0, 0);
        Check.equal("supply of 0 in stage 0", dry.latest(0, 2), 50);
        Check.equal("supply of 1 in stage 0", dry.latest(1, 2), 50);
        Check.equal("stage of the next month, dry", dry.stage(), 3);
    }

    private static void plans() {
        Edges.test("Plans", "There are 4 plans, numbered from 0", () ->
                Edges.range("factor:0,1;factor:1,1;factor:2,1;factor:3,1;", "factor:", ",200;", 0, 3,
                        x -> Edges.where(4, p -> x.count(10 + p), 200)));
        Edges.test("Plans", "each with a factor, 0 to 200", () -> {
            Edges.range("", "factor:0,", ";", 0, 200, x -> x.count(10));
            Edges.range("", "factor:3,", ";", 0, 200, x -> x.count(13));
        });
        Edges.test("Plans", "at first 100 for plan 0, 80 for plan 1, 60 for plan 2 and 120 for plan 3", () -> {
            int[] dues = {100, 80, 60, 120};
            Cascade x = Check.after("add:1000,0,0,0;curve:0,0,100;");
            for (int plan = 0; plan < 4; plan++) {
                Check.equal("factor of " + plan, x.count(10 + plan), dues[plan]);
                Check.equal("target by " + plan, x.target(0, 0, plan), dues[plan]);
            }
        });
        Edges.test("Plans", "its rule curve times the factor, divided by 100 and rounded down",
                CascadeEdges::targetsRoundedDown);
        Edges.test("Plans", "but at most its capacity", CascadeEdges::targetsAtMostTheCapacity);
    }

    private static int target(int capacity, int curve, int factor) {
        Cascade x = Check.after("add:" + capacity + ",0,0,0;curve:0,0," + curve + ";factor:0," + factor + ";");
        return x.target(0, 0, 0);
    }

    private static void targetsRoundedDown() {
        Check.equal("99 of 100 of 1", target(100, 1, 99), 0);
        Check.equal("100 of 100 of 1", target(100, 1, 100), 1);
        Check.equal("199 of 100 of 1", target(100, 1, 199), 1);
        Check.equal("200 of 100 of 1", target(100, 1, 200), 2);
        Check.equal("99 of 100 of 55", target(100, 55, 99), 54);
        Check.equal("0 of 100 of 9999", target(9999, 9999, 0), 0);
        Check.equal("99 of 100 of 9999", target(9999, 9999, 99), 9899);
        Check.equal("200 of 100 of 0", target(100, 0, 200), 0);
    }

    private static void targetsAtMostTheCapacity() {
        Check.equal("at the capacity", target(100, 100, 100), 100);
        Check.equal("above by the curve", target(100, 101, 100), 100);
        Check.equal("above by the factor", target(100, 100, 101), 100);
        Check.equal("far above", target(1, 9999, 200), 1);
        Check.equal("below", target(100, 99, 100), 99);
        Check.equal("a curve above, but a factor below", target(100, 150, 60), 90);
    }
}
