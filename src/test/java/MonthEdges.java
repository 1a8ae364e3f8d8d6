/** The sentences about a month: water, supply, release, energy, spill, reason and value. */
final class MonthEdges {
    /** 40 stand above the dead storage. */
    private static final String ONE = "add:100,10,30,50;";

    private MonthEdges() {
    }

    static void run() {
        months();
        supplies();
        releases();
        energiesAndSpills();
        reasons();
        values();
    }

    /** A cascade after one month by plan 0 and scenario 0. */
    private static Cascade byPlan(String texts) {
        Cascade x = Check.after(texts);
        x.operate(1, 0, 0);
        return x;
    }

    /** A cascade after one month by hand and scenario 0, with the same wish for each reservoir. */
    private static Cascade byHand(String texts, int wish) {
        Cascade x = Check.after(texts);
        x.byHand(0, wish, wish, wish);
        return x;
    }

    private static void months() {
        Edges.test("Months", "Months are numbered from 0", () -> {
            Cascade x = Check.after(ONE + "flow:0,0,0,7;flow:0,0,1,9;");
            Check.equal("the present month", x.count(1), 0);
            x.operate(1, 0, 0);
            Check.equal("what came in month 0", x.latest(0, 1), 7);
            Check.equal("the present month then", x.count(1), 1);
        });
        Edges.test("Months", "month t is the month t modulo 12 of the year", MonthEdges::theYearTurns);
        Edges.test("Months", "from the highest one on", () -> {
            Cascade x = byHand("add:9,0,9,3;add:9,0,9,2;add:9,0,9,1;", 9);
            int[] releases = {3, 5, 6};
            for (int r = 0; r < 3; r++) {
                Check.equal("release of " + r, x.latest(r, 4), releases[r]);
            }
        });
        Edges.test("Months", "plus the inflow of the scenario, plus what left the reservoir above it in this month",
                MonthEdges::water);
    }

    private static void theYearTurns() {
        Cascade x = Check.after("add:9999,0,0,0;flow:0,0,11,5;flow:0,0,0,70;curve:0,0,90;curve:0,11,80;");
        x.operate(11, 0, 0);
        Check.equal("what came in month 10", x.latest(0, 1), 0);
        x.operate(1, 0, 0);
        Check.equal("what came in month 11", x.latest(0, 1), 5);
        x.operate(1, 0, 0);
        Check.equal("what came in month 12", x.latest(0, 1), 70);
        x.operate(11, 0, 0);
        Check.equal("what came in month 23", x.latest(0, 1), 5);
        Check.equal("ahead from month 24", x.ahead(1, 0, 0, 4), 150 + 70);
        x.byHand(0, 0, 0, 0);
        Check.equal("what came in month 24", x.latest(0, 1), 70);
        Cascade y = Check.after("add:999,0,999,200;curve:0,0,30;");
        y.operate(12, 0, 0);
        Check.equal("storage by the curve of month 0", y.reservoir(0, 3), 30);
        Check.execute(y, "curve:0,0,20;");
        y.operate(1, 0, 0);
        Check.equal("storage by the curve of month 12", y.reservoir(0, 3), 20);
    }

    private static void water() {
        Cascade x = Check.after("add:20,0,4,20;add:90,0,9,50;flow:0,0,0,6;flow:1,0,0,2;flow:0,1,0,5;");
        x.byHand(0, 4, 0, 0);
        Check.equal("inflow, 4 of a release and 2 of a spill", x.latest(1, 1), 5 + 4 + 2);
        Check.equal("storage", x.reservoir(1, 3), 50 + 11);
        x.byHand(0, 0, 0, 0);
        Check.equal("what left in an earlier month", x.latest(1, 1), 0);
        x.undo();
        x.undo();
        x.byHand(1, 4, 0, 0);
        Check.equal("another scenario", x.latest(1, 1), 4);
        Check.equal("what came into the highest one", x.latest(0, 1), 2);
    }

    private static void supplies() {
        Edges.test("Months", "times the share of the stage of the month, divided by 100 and rounded down", () -> {
            int[] shares = {0, 1, 3, 4, 99, 100};
            int[] dues = {0, 0, 0, 1, 32, 33};
            for (int i = 0; i < shares.length; i++) {
                Cascade x = byPlan("add:100,0,0,60;need:0,33;stage:1,61," + shares[i] + ";");
                Check.equal("supply by " + shares[i], x.latest(0, 2), dues[i]);
            }
            Check.equal("supply of the greatest need", byPlan("add:999,0,0,999;need:0,999;").latest(0, 2), 999);
        });
        Edges.test("Months", "but at most the water above its dead storage", () -> {
            supply("add:100,50,0,60;need:0,9;", 9, 51);
            supply("add:100,50,0,60;need:0,10;", 10, 50);
            supply("add:100,50,0,60;need:0,11;", 10, 50);
            supply("add:100,50,0,60;need:0,15;flow:0,0,0,5;", 15, 50);
            supply("add:100,50,0,60;need:0,16;flow:0,0,0,5;", 15, 50);
        });
        Edges.test("Months", "the water above its dead storage, at least 0", () -> {
            supply("add:100,60,0,61;need:0,5;", 1, 60);
            supply("add:100,60,0,60;need:0,5;", 0, 60);
            supply("add:100,60,0,59;need:0,5;", 0, 59);
            supply("add:100,60,0,50;need:0,5;", 0, 50);
            supply("add:100,100,0,0;need:0,5;", 0, 0);
        });
        Edges.test("Months", "the shortage is its need minus its supply", () -> {
            Check.equal("no shortage", byPlan("add:100,50,0,60;need:0,10;").latest(0, 3), 0);
            Check.equal("1 is short", byPlan("add:100,50,0,60;need:0,11;").latest(0, 3), 1);
            Check.equal("nothing supplied", byPlan("add:100,60,0,60;need:0,999;").latest(0, 3), 999);
            Check.equal("short by the stage", byPlan("add:100,0,0,49;need:0,10;").latest(0, 3), 2);
            Check.equal("no need", byPlan("add:100,60,0,60;").latest(0, 3), 0);
        });
        Edges.test("Months", "The rest is the water minus the supply", () -> {
            Cascade x = byHand("add:999,0,999,500;need:0,200;flow:0,0,0,7;", 9999);
            Check.equal("release of all the rest", x.latest(0, 4), 307);
        });
    }

    private static void supply(String texts, int due, int storage) {
        Cascade x = byPlan(texts);
        Check.equal("supply after " + texts, x.latest(0, 2), due);
        Check.equal("storage after " + texts, x.reservoir(0, 3), storage);
    }

    private static void released(String texts, int due) {
        Cascade x = byPlan("add:100,0,99,50;" + texts);
        Check.equal("release after " + texts, x.latest(0, 4), due);
    }

    private static void releasedByHand(String texts, int wish, int due) {
        Cascade x = byHand(texts, wish);
        Check.equal("release of " + wish + " after " + texts, x.latest(0, 4), due);
    }

    private static void releases() {
        Edges.test("Months", "by a plan, the greater one of the least release and the rest minus the target", () -> {
            released("curve:0,0,40;least:0,9;", 10);
            released("curve:0,0,40;least:0,10;", 10);
            released("curve:0,0,40;least:0,11;", 11);
            released("curve:0,0,50;", 0);
            released("curve:0,0,60;", 0);
            released("curve:0,0,60;least:0,1;", 1);
            released("curve:0,0,0;least:0,49;", 50);
            released("curve:0,0,100;factor:0,50;flow:0,0,0,3;need:0,2;", 1);
        });
        Edges.test("Months", "by hand, the given number", () -> {
            releasedByHand("add:100,0,99,50;least:0,20;curve:0,0,0;", 0, 0);
            releasedByHand("add:100,0,99,50;least:0,20;curve:0,0,0;", 19, 19);
            releasedByHand("add:100,0,99,50;least:0,20;", 49, 49);
        });
        Edges.test("Months", "The release is the wish, but at most the turbine", () -> {
            releasedByHand(ONE, 29, 29);
            releasedByHand(ONE, 30, 30);
            releasedByHand(ONE, 31, 30);
            releasedByHand("add:9999,0,999,9999;", 9999, 999);
            releasedByHand("add:100,10,0,50;", 1, 0);
            Check.equal("least release beyond the turbine", byPlan(ONE + "least:0,31;").latest(0, 4), 30);
        });
        Edges.test("Months", "and at most the rest above the dead storage", () -> {
            releasedByHand("add:100,20,99,50;", 29, 29);
            releasedByHand("add:100,20,99,50;", 30, 30);
            releasedByHand("add:100,20,99,50;", 31, 30);
            releasedByHand("add:100,20,99,50;need:0,5;", 26, 25);
            Check.equal("least release beyond it", byPlan("add:100,20,99,50;least:0,31;").latest(0, 4), 30);
            Check.equal("rest above the target beyond it", byPlan("add:100,20,99,50;curve:0,0,0;").latest(0, 4), 30);
        });
        Edges.test("Months", "the rest above the dead storage, at least 0.", () -> {
            for (int storage : new int[] {60, 59, 0}) {
                String text = "add:100,60,40," + storage + ";";
                releasedByHand(text, 10, 0);
                Check.equal("storage after no release", byHand(text, 10).reservoir(0, 3), storage);
                Check.equal("least release of none", byPlan(text + "least:0,5;").latest(0, 4), 0);
            }
            releasedByHand("add:100,60,40,61;", 10, 1);
        });
    }

    private static void energiesAndSpills() {
        Edges.test("Months", "the head at the storage at the beginning of the month", () -> {
            String table = "head:0,50,3;head:0,51,7;head:0,20,2;flow:0,0,0,10;";
            Check.equal("energy at 50", byHand("add:100,0,50,50;" + table, 40).latest(0, 6), 120);
            Check.equal("energy at 49", byHand("add:100,0,50,49;" + table, 40).latest(0, 6), 80);
            Check.equal("energy at 51", byHand("add:100,0,50,51;" + table, 40).latest(0, 6), 280);
            Check.equal("energy at 19", byHand("add:100,0,50,19;" + table, 20).latest(0, 6), 0);
            Check.equal("energy of no release", byHand("add:100,0,50,50;" + table, 0).latest(0, 6), 0);
            String greatest = "add:9999,0,999,9999;head:0,9999,99;";
            Check.equal("the greatest energy", byHand(greatest, 9999).latest(0, 6), 999 * 99);
        });
        Edges.test("Months", "What is above the capacity after the release is the spill", () -> {
            int[] flows = {9, 10, 11, 999};
            int[] spills = {0, 0, 1, 989};
            int[] storages = {99, 100, 100, 100};
            for (int i = 0; i < flows.length; i++) {
                Cascade x = byHand("add:100,0,10,100;flow:0,0,0," + flows[i] + ";", 10);
                Check.equal("spill of " + flows[i], x.latest(0, 5), spills[i]);
                Check.equal("storage of " + flows[i], x.reservoir(0, 3), storages[i]);
            }
            Check.equal("what is supplied isn't spilt", byPlan("add:9,0,0,9;need:0,4;flow:0,0,0,5;").latest(0, 5), 1);
        });
        Edges.test("Months", "What leaves the reservoir is the release and the spill", () -> {
            String texts = "add:100,0,10,100;add:999,0,0,999;need:0,3;flow:0,0,0,";
            Check.equal("a release alone", byHand(texts + "0;", 10).latest(1, 1), 10);
            Check.equal("both", byHand(texts + "20;", 10).latest(1, 1), 10 + 7);
            Check.equal("a spill alone", byHand(texts + "20;", 0).latest(1, 1), 17);
            Check.equal("neither", byHand(texts + "3;", 0).latest(1, 1), 0);
        });
    }

    private static void reason(String texts, int due) {
        Check.equal("reason by plan after " + texts, byPlan(texts).latest(0, 7), due);
    }

    private static void reasonByHand(String texts, int wish, int due) {
        Check.equal("reason of " + wish + " by hand after " + texts, byHand(texts, wish).latest(0, 7), due);
    }

    private static void reasons() {
        Edges.test("Months", "is less than the wish and less than the turbine", () -> {
            reasonByHand(ONE + "need:0,11;", 29, 4);
            reasonByHand(ONE + "need:0,11;", 30, 3);
            reasonByHand(ONE + "need:0,11;", 31, 3);
            reasonByHand(ONE + "need:0,10;", 30, 4);
            reasonByHand(ONE + "need:0,10;", 31, 2);
            reason(ONE + "need:0,11;least:0,29;", 1);
            reason(ONE + "need:0,11;least:0,30;", 3);
            reason(ONE + "need:0,10;least:0,31;", 2);
            reason(ONE + "need:0,11;curve:0,0,10;", 0);
            reason(ONE + "need:0,11;curve:0,0,9;", 3);
        });
        Edges.test("Months", "3, if the rest above the dead storage, at least 0, is less", () -> {
            reasonByHand("add:100,60,40,50;", 0, 4);
            reasonByHand("add:100,60,40,50;", 1, 3);
            reasonByHand("add:100,60,0,50;", 1, 2);
            reasonByHand("add:100,60,1,50;", 1, 3);
            reason("add:100,60,40,50;", 1);
            reason("add:100,60,40,50;curve:0,0,50;", 0);
            reason("add:100,60,40,50;curve:0,0,49;", 3);
        });
        Edges.test("Months", "otherwise 2, if the turbine is less than the wish", () -> {
            reasonByHand(ONE, 30, 4);
            reasonByHand(ONE, 31, 2);
            reason(ONE + "least:0,30;", 1);
            reason(ONE + "least:0,31;", 2);
            reason(ONE + "curve:0,0,20;", 0);
            reason(ONE + "curve:0,0,19;", 2);
            reasonByHand("add:100,0,0,50;", 0, 4);
            reasonByHand("add:100,0,0,50;", 1, 2);
        });
        Edges.test("Months", "otherwise 4, if the wish was given by hand", () -> {
            reasonByHand(ONE + "curve:0,0,40;", 10, 4);
            reasonByHand(ONE + "least:0,10;", 10, 4);
            reasonByHand(ONE, 0, 4);
        });
        Edges.test("Months", "otherwise 0, if the rest minus the target is at least the least release", () -> {
            reason(ONE + "curve:0,0,40;least:0,9;", 0);
            reason(ONE + "curve:0,0,40;least:0,10;", 0);
            reason(ONE + "curve:0,0,50;", 0);
        });
        Edges.test("Months", "at least the least release; otherwise 1.", () -> {
            reason(ONE + "curve:0,0,40;least:0,11;", 1);
            reason(ONE + "curve:0,0,51;", 1);
            reason(ONE + "curve:0,0,51;least:0,5;", 1);
        });
    }

    private static void values() {
        Edges.test("Value", "the energy of all reservoirs times the price, minus the shortages times the penalty,"
                + " minus the spills times the waste", MonthEdges::valueOfAMonth);
        Edges.test("Value", "the price is 0 to 99, at first 1", () -> {
            Edges.range("", "price:", ";", 0, 99, x -> x.count(5));
            Cascade x = byHand("add:9,0,9,9;head:0,0,7;", 9);
            Check.equal("value by the price at first", x.value(), 63);
            Check.equal("value by 0", byHand("add:9,0,9,9;head:0,0,7;price:0;", 9).value(), 0);
            Check.equal("value by 99", byHand("add:9,0,9,9;head:0,0,7;price:99;", 9).value(), 63 * 99);
        });
        Edges.test("Value", "the penalty 0 to 99, at first 5", () -> {
            Edges.range("", "penalty:", ";", 0, 99, x -> x.count(6));
            Check.equal("value by the penalty at first", byPlan("add:9,0,0,0;need:0,3;").value(), -15);
            Check.equal("value by 0", byPlan("add:9,0,0,0;need:0,3;penalty:0;").value(), 0);
            Check.equal("value by 99", byPlan("add:9,0,0,0;need:0,3;penalty:99;").value(), -297);
        });
        Edges.test("Value", "the waste 0 to 99, at first 0", () -> {
            Edges.range("", "waste:", ";", 0, 99, x -> x.count(7));
            Check.equal("value by the waste at first", byPlan("add:9,0,0,9;flow:0,0,0,3;").value(), 0);
            Check.equal("value by 99", byPlan("add:9,0,0,9;flow:0,0,0,3;waste:99;").value(), -297);
        });
        Edges.test("Value", "The value of several months is the sum", MonthEdges::valueOfMonths);
    }

    private static void valueOfAMonth() {
        String rates = "price:3;penalty:11;waste:2;";
        Cascade wet = Check.after("add:9,9,2,9;add:9,9,3,9;add:9,9,4,9;head:0,0,1;head:1,0,1;head:2,0,1;",
                "need:0,5;need:1,6;need:2,7;flow:0,0,0,15;flow:0,1,0,8;flow:0,2,0,9;", rates);
        wet.byHand(0, 2, 3, 4);
        Check.equal("2 + 3 + 4 of energy, 8 + 9 + 10 spilt", wet.value(), 9 * 3 - 27 * 2);
        Cascade dry = Check.after("add:9,9,9,0;add:9,9,9,0;add:9,9,9,0;need:0,5;need:1,6;need:2,7;", rates);
        dry.byHand(0, 0, 0, 0);
        Check.equal("5 + 6 + 7 short", dry.value(), -18 * 11);
        Cascade all = Check.after("add:9,9,2,9;add:9,0,3,9;add:9,0,0,9;need:0,5;head:1,0,7;",
                "flow:0,2,0,8;" + rates);
        all.byHand(0, 0, 3, 0);
        Check.equal("5 short above, 21 of energy, 11 spilt below", all.value(), 21 * 3 - 5 * 11 - 11 * 2);
    }

    private static void valueOfMonths() {
        Cascade x = Check.after("add:90,0,9,90;head:0,50,2;head:0,0,1;need:0,12;flow:0,0,1,80;waste:3;");
        long sum = 0;
        long ahead = x.ahead(24, 0, 1, 0);
        for (int month = 0; month < 24; month++) {
            long before = x.value();
            long due = x.ahead(1, 0, 1, 0);
            x.operate(1, 0, 1);
            Check.equal("value of month " + month, x.value() - before, due);
            sum += due;
        }
        Check.equal("value of all", x.value(), sum);
        Check.equal("value of all, ahead", ahead, sum);
    }
}
