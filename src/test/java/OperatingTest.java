import java.util.NoSuchElementException;

/** Promises 9 to 11 and 13 to 16: operate, byHand, latest, reaches, account, difference, value. */
public final class OperatingTest {
    /** Reservoir 0 with need 10 and heads, reservoir 1 below it with a least release. */
    private static final String CASCADE = "add:100,10,30,80;add:50,0,20,50;need:0,10;"
            + "head:0,0,2;head:0,60,5;head:1,0,3;";
    private static final String FLOWS = "curve:0,0,60;curve:0,1,40;flow:0,0,0,20;flow:0,1,0,7;least:1,5;";

    private static final Class<? extends RuntimeException> NEVER = NoSuchElementException.class;

    public static void main(String[] args) {
        aMonthByPlan();
        aMonthByHand();
        spillsGoOnDownstream();
        monthsFollowTheYear();
        supplyByStage();
        storageBelowDead();
        reasonsByPlan();
        reasonsByHand();
        operateRefuses();
        byHandRefuses();
        latestRefuses();
        latestEndsWithExecute();
        reaching();
        reachingAtMost36();
        accounts();
        differences();
        values();
        Check.finish("OperatingTest");
    }

    private static void latest(Cascade x, int reservoir, int... dues) {
        for (int what = 0; what < dues.length; what++) {
            Check.equal("latest of " + reservoir + ", " + what, x.latest(reservoir, what), dues[what]);
        }
    }

    private static void aMonthByPlan() {
        Cascade x = Check.after(CASCADE, FLOWS);
        Check.equal("operate", x.operate(1, 0, 0), 1);
        latest(x, 0, 80, 20, 10, 0, 30, 0, 150, 0);
        latest(x, 1, 50, 37, 0, 0, 20, 17, 60, 2);
        Check.equal("storage 0", x.reservoir(0, 3), 60);
        Check.equal("storage 1", x.reservoir(1, 3), 50);
        Check.equal("month", x.count(1), 1);
        x.operate(1, 0, 1);
        latest(x, 0, 60, 0, 10, 0, 18, 0, 90, 0);
        Check.equal("storage 0 by plan 1", x.reservoir(0, 3), 32);
        x = Check.after(CASCADE, FLOWS);
        x.operate(1, 4, 0);
        latest(x, 0, 80, 5, 10, 0, 15, 0, 75, 0);
        latest(x, 1, 50, 16, 0, 0, 16, 0, 48, 0);
    }

    private static void aMonthByHand() {
        Cascade x = Check.after(CASCADE, FLOWS);
        Check.equal("byHand", x.byHand(0, 12, 0, 9999), 60);
        latest(x, 0, 80, 20, 10, 0, 12, 0, 60, 4);
        latest(x, 1, 50, 19, 0, 0, 0, 19, 0, 4);
        Check.equal("month", x.count(1), 1);
        Check.equal("storage 0", x.reservoir(0, 3), 78);
        Check.equal("energies of both", x.byHand(1, 30, 20, 0), 30 * 5 + 20 * 3);
        Check.equal("byHand adds no least release", x.byHand(1, 0, 0, 0), 0);
        Check.equal("wishes beyond the turbine", x.byHand(1, 9999, 9999, 0), 8 * 2 + 20 * 3);
        Check.equal("three months of work by hand", x.count(1), 4);
    }

    private static void spillsGoOnDownstream() {
        Cascade x = Check.after("add:10,0,3,9;add:20,0,5,18;add:99,0,0,90;flow:0,0,0,40;flow:0,1,0,1;");
        x.operate(1, 0, 0);
        latest(x, 0, 9, 40, 0, 0, 3, 36, 0, 2);
        latest(x, 1, 18, 1 + 39, 0, 0, 5, 33, 0, 2);
        latest(x, 2, 90, 38, 0, 0, 0, 29, 0, 2);
        int[] dues = {10, 20, 99};
        for (int r = 0; r < 3; r++) {
            Check.equal("storage " + r + " after spills", x.reservoir(r, 3), dues[r]);
            Check.equal("difference " + r + " after spills", x.difference(r), 0);
        }
        Check.equal("inflows of the scenario alone", x.account(2, 0), 0);
        Check.equal("spills of all", x.account(-1, 4), 36 + 33 + 29);
    }

    private static void monthsFollowTheYear() {
        Cascade x = Check.after("add:9999,0,0,0;flow:1,0,0,100;flow:1,0,11,7;flow:2,0,0,1;");
        Check.equal("eleven months", x.operate(11, 1, 0), 11);
        Check.equal("storage after month 10", x.reservoir(0, 3), 100);
        Check.equal("the last of the year", x.operate(1, 1, 0), 12);
        Check.equal("storage after month 11", x.reservoir(0, 3), 107);
        Check.equal("the next year", x.operate(1, 1, 0), 13);
        Check.equal("storage after month 12", x.reservoir(0, 3), 207);
        Check.equal("two years", x.operate(24, 1, 0), 37);
        Check.equal("storage after two years", x.reservoir(0, 3), 207 + 214);
        x.byHand(2, 0, 0, 0);
        Check.equal("another scenario in month 37", x.reservoir(0, 3), 421);
    }

    /** The stage of the month is that before its first reservoir, and holds for all of them. */
    private static void supplyByStage() {
        int[] storages = {60, 50, 49, 30, 29, 15, 14, 0};
        int[] supplies = {33, 33, 26, 26, 19, 15, 13, 0};
        for (int i = 0; i < storages.length; i++) {
            Cascade x = Check.after("add:100,0,0," + storages[i] + ";need:0,33;");
            x.operate(1, 0, 0);
            Check.equal("supply at " + storages[i], x.latest(0, 2), supplies[i]);
            Check.equal("shortage at " + storages[i], x.latest(0, 3), 33 - supplies[i]);
        }
        Cascade x = Check.after("add:100,0,0,60;add:100,0,0,50;need:0,60;need:1,50;");
        x.operate(1, 0, 0);
        Check.equal("the second supply of a month", x.latest(1, 2), 50);
        x = Check.after("add:100,0,0,60;need:0,50;stage:1,61,7;");
        x.operate(1, 0, 0);
        Check.equal("supply by another share, rounded down", x.latest(0, 2), 3);
        x = Check.after("add:100,55,0,60;need:0,50;");
        x.operate(1, 0, 0);
        Check.equal("supply above the dead storage", x.latest(0, 2), 5);
    }

    private static void storageBelowDead() {
        Cascade x = Check.after("add:100,60,40,50;need:0,9;least:0,3;flow:0,0,0,10;flow:0,0,1,2;");
        x.operate(1, 0, 0);
        latest(x, 0, 50, 10, 0, 9, 0, 0, 0, 3);
        Check.equal("storage up to dead", x.reservoir(0, 3), 60);
        x.operate(1, 0, 0);
        latest(x, 0, 60, 2, 2, 7, 0, 0, 0, 3);
        x = Check.after("add:100,60,40,50;flow:0,0,0,5;");
        x.operate(1, 0, 0);
        latest(x, 0, 50, 5, 0, 0, 0, 0, 0, 1);
        Check.equal("storage below dead", x.reservoir(0, 3), 55);
    }

    private static void reason(String texts, int release, int due) {
        Cascade x = Check.after("add:100,10,30,50;" + texts);
        x.operate(1, 0, 0);
        Check.equal("release after " + texts, x.latest(0, 4), release);
        Check.equal("reason after " + texts, x.latest(0, 7), due);
    }

    private static void reasonsByPlan() {
        reason("curve:0,0,40;", 10, 0);
        reason("curve:0,0,40;least:0,10;", 10, 0);
        reason("curve:0,0,40;least:0,11;", 11, 1);
        reason("curve:0,0,50;", 0, 0);
        reason("curve:0,0,51;", 0, 1);
        reason("curve:0,0,20;", 30, 0);
        reason("curve:0,0,19;", 30, 2);
        reason("least:0,30;", 30, 1);
        reason("least:0,31;", 30, 2);
        reason("need:0,10;least:0,31;", 30, 2);
        reason("need:0,11;least:0,31;", 29, 3);
        reason("need:0,11;least:0,29;", 29, 1);
        reason("need:0,11;curve:0,0,0;", 29, 3);
        reason("need:0,999;least:0,1;", 0, 3);
    }

    private static void reasonByHand(int wish, int need, int release, int due) {
        Cascade x = Check.after("add:100,10,30,50;least:0,20;curve:0,0,0;need:0," + need + ";");
        x.byHand(0, wish, 0, 0);
        Check.equal("release by hand of " + wish + ", need " + need, x.latest(0, 4), release);
        Check.equal("reason by hand of " + wish + ", need " + need, x.latest(0, 7), due);
    }

    private static void reasonsByHand() {
        reasonByHand(0, 0, 0, 4);
        reasonByHand(30, 0, 30, 4);
        reasonByHand(31, 0, 30, 2);
        reasonByHand(29, 11, 29, 4);
        reasonByHand(30, 11, 29, 3);
        reasonByHand(9999, 10, 30, 2);
        reasonByHand(1, 999, 0, 3);
        reasonByHand(0, 999, 0, 4);
    }

    private static void operateRefuses() {
        Cascade empty = new Cascade();
        Check.raises("operate without reservoirs", Check.STATE, empty, () -> empty.operate(1, 0, 0));
        Cascade x = Check.after(CASCADE);
        Check.raises("operate scenario 5", Check.INDEX, x, () -> x.operate(1, 5, 0));
        Check.raises("operate scenario -1", Check.INDEX, x, () -> x.operate(1, -1, 0));
        Check.raises("operate plan 4", Check.INDEX, x, () -> x.operate(0, 0, 4));
        Check.raises("operate plan -1", Check.INDEX, x, () -> x.operate(1, 0, -1));
        Check.raises("operate no months", Check.ARGUMENT, x, () -> x.operate(0, 0, 0));
        Check.raises("operate 25 months", Check.ARGUMENT, x, () -> x.operate(25, 0, 0));
        Check.raises("operate 25 months of nothing", Check.ARGUMENT, empty, () -> empty.operate(25, 0, 0));
        Check.raises("operate scenario 5 of nothing", Check.INDEX, empty, () -> empty.operate(0, 5, 0));
        for (int i = 0; i < 41; i++) {
            x.operate(24, 0, 0);
        }
        Check.raises("operate up to month 1000", Check.STATE, x, () -> x.operate(16, 0, 0));
        Check.equal("operate up to month 999", x.operate(15, 0, 0), 999);
        Check.raises("operate month 999", Check.STATE, x, () -> x.operate(1, 0, 0));
        Check.raises("by hand in month 999", Check.STATE, x, () -> x.byHand(0, 0, 0, 0));
        Check.equal("ahead beyond month 999", x.ahead(24, 0, 0, 2), x.ahead(12, 0, 0, 2) * 2);
        x.undo();
        Check.equal("operate up to month 998", x.operate(14, 0, 0), 998);
        x.byHand(0, 0, 0, 0);
        Check.equal("by hand up to month 999", x.count(1), 999);
    }

    private static void byHandRefuses() {
        Cascade empty = new Cascade();
        Check.raises("by hand without reservoirs", Check.STATE, empty, () -> empty.byHand(0, 0, 0, 0));
        Check.raises("by hand, no reservoirs, bad wish", Check.ARGUMENT, empty, () -> empty.byHand(0, 0, -1, 0));
        Cascade x = Check.after(CASCADE);
        Check.raises("by hand scenario 5", Check.INDEX, x, () -> x.byHand(5, -1, 0, 0));
        Check.raises("by hand scenario -1", Check.INDEX, x, () -> x.byHand(-1, 0, 0, 0));
        int[] bad = {-1, 10000, Integer.MIN_VALUE, Integer.MAX_VALUE};
        for (int wish : bad) {
            Check.raises("by hand first " + wish, Check.ARGUMENT, x, () -> x.byHand(0, wish, 0, 0));
            Check.raises("by hand second " + wish, Check.ARGUMENT, x, () -> x.byHand(0, 0, wish, 0));
            Check.raises("by hand third " + wish, Check.ARGUMENT, x, () -> x.byHand(0, 0, 0, wish));
        }
        Check.equal("by hand with the greatest wishes", x.byHand(4, 9999, 9999, 9999), 30 * 5 + 20 * 3);
    }

    private static void latestRefuses() {
        Cascade x = Check.after(CASCADE);
        Check.raises("latest without a month", Check.STATE, x, () -> x.latest(0, 0));
        Check.raises("latest what 8 without a month", Check.ARGUMENT, x, () -> x.latest(0, 8));
        Check.raises("latest of reservoir 2", Check.INDEX, x, () -> x.latest(2, 8));
        Check.raises("latest of reservoir -1", Check.INDEX, x, () -> x.latest(-1, 0));
        x.operate(1, 0, 0);
        Check.raises("latest what 8", Check.ARGUMENT, x, () -> x.latest(0, 8));
        Check.raises("latest what -1", Check.ARGUMENT, x, () -> x.latest(0, -1));
    }

    private static void latestEndsWithExecute() {
        Cascade x = Check.after(CASCADE);
        x.operate(1, 0, 0);
        Check.outcome(x, "price:100;");
        Check.equal("latest after an error in a text", x.latest(0, 0), 80);
        Check.execute(x, "price:1;");
        Check.raises("latest after execute", Check.STATE, x, () -> x.latest(0, 0));
        x.undo();
        Check.equal("latest after undo of execute", x.latest(0, 0), 80);
        x.undo();
        Check.raises("latest after undo of operate", Check.STATE, x, () -> x.latest(0, 0));
    }

    private static void reaching() {
        Cascade x = Check.after("add:100,20,50,100;need:0,40;stage:3,10,0;");
        int[] dues = {0, 2, 2};
        for (int stage = 0; stage < dues.length; stage++) {
            Check.equal("reaches " + stage, x.reaches(stage, 0, 0), dues[stage]);
        }
        Check.raises("reaches 3", NEVER, x, () -> x.reaches(3, 0, 0));
        Check.raises("reaches 4", Check.ARGUMENT, x, () -> x.reaches(4, 0, 0));
        Check.raises("reaches -1", Check.ARGUMENT, x, () -> x.reaches(-1, 0, 0));
        Check.raises("reaches by scenario 5", Check.INDEX, x, () -> x.reaches(4, 5, 0));
        Check.raises("reaches by scenario -1", Check.INDEX, x, () -> x.reaches(0, -1, 0));
        Check.raises("reaches by plan 4", Check.INDEX, x, () -> x.reaches(4, 0, 4));
        Check.raises("reaches by plan -1", Check.INDEX, x, () -> x.reaches(0, 0, -1));
        Check.equal("nothing was operated", x.count(1), 0);
        Check.equal("reached now", Check.after("add:100,0,0,20;").reaches(2, 0, 0), 0);
        Check.equal("without reservoirs", new Cascade().reaches(3, 4, 3), 0);
        Cascade none = Check.after("stage:3,0,0;");
        Check.raises("never", NEVER, none, () -> none.reaches(3, 0, 0));
    }

    /** One unit a month of 1000: the filling is below 98 from the 21st month on, below 97 from the 31st, and so on. */
    private static void reachingAtMost36() {
        Cascade x = Check.after("add:1000,0,0,1000;need:0,1;stage:1,98,100;stage:2,97,100;stage:3,96,100;");
        Check.equal("reaches after 21 months", x.reaches(1, 0, 0), 21);
        Check.equal("reaches after 31 months", x.reaches(2, 0, 0), 31);
        Check.raises("reaches after 41 months", NEVER, x, () -> x.reaches(3, 0, 0));
        x.operate(4, 0, 0);
        Check.raises("reaches after 37 months", NEVER, x, () -> x.reaches(3, 0, 0));
        x.operate(1, 0, 0);
        Check.equal("reaches after 36 months", x.reaches(3, 0, 0), 36);
    }

    private static void accounts() {
        Cascade x = Check.after(CASCADE, FLOWS);
        x.operate(1, 0, 0);
        x.byHand(0, 12, 0, 0);
        int[][] dues = {{20, 20, 0, 42, 0, 210, 80}, {7, 0, 0, 20, 29, 60, 50}};
        for (int what = 0; what < 7; what++) {
            Check.equal("account of 0, " + what, x.account(0, what), dues[0][what]);
            Check.equal("account of 1, " + what, x.account(1, what), dues[1][what]);
            Check.equal("account of all, " + what, x.account(-1, what), dues[0][what] + dues[1][what]);
        }
        Check.execute(x, "add:9,0,0,4;");
        Check.equal("added later", x.account(2, 6), 4);
        Check.equal("all that were added", x.account(-1, 6), 134);
        Check.equal("sums stay with execute", x.account(-1, 3), 62);
        Cascade short1 = Check.after("add:100,0,0,5;need:0,20;");
        short1.operate(2, 0, 0);
        Check.equal("shortages", short1.account(0, 2), 15 + 20);
        Check.equal("supplies", short1.account(0, 1), 5);
        Check.raises("account of -2", Check.INDEX, x, () -> x.account(-2, 7));
        Check.raises("account of 3", Check.INDEX, x, () -> x.account(3, 0));
        Check.raises("account what 7", Check.ARGUMENT, x, () -> x.account(-1, 7));
        Check.raises("account what -1", Check.ARGUMENT, x, () -> x.account(0, -1));
        Cascade empty = new Cascade();
        Check.raises("account of 0 without reservoirs", Check.INDEX, empty, () -> empty.account(0, 0));
        Check.raises("account what 7 without reservoirs", Check.ARGUMENT, empty, () -> empty.account(-1, 7));
    }

    private static void differences() {
        Cascade x = Check.after("add:90,30,40,20;add:9,2,99,9;need:0,20;need:1,3;least:1,4;",
                "flow:0,0,0,99;flow:0,0,1,150;flow:0,1,1,33;", "flow:0,1,2,1;flow:0,0,3,15;curve:0,2,9;");
        for (int i = 0; i < 14; i++) {
            x.operate(1, i % 5, i % 4);
            Check.equal("difference of 0 in month " + i, x.difference(0), 0);
            Check.equal("difference of 1 in month " + i, x.difference(1), 0);
            x.byHand(i % 5, i * 7, i * 3, 0);
            Check.equal("difference of 0 after " + i + " by hand", x.difference(0), 0);
            Check.equal("difference of 1 after " + i + " by hand", x.difference(1), 0);
        }
        Check.raises("difference of 2", Check.INDEX, x, () -> x.difference(2));
        Check.raises("difference of -1", Check.INDEX, x, () -> x.difference(-1));
    }

    private static void values() {
        Cascade x = Check.after(CASCADE, FLOWS + "waste:2;");
        x.operate(1, 0, 0);
        Check.equal("value of energies and spills", x.value(), 210 - 17 * 2);
        Check.execute(x, "price:3;waste:0;need:1,200;");
        Check.equal("value stays with other prices", x.value(), 176);
        x.byHand(0, 4, 0, 0);
        Check.equal("shortage", x.latest(1, 3), 146);
        Check.equal("value by other prices", x.value(), 176 + 4 * 5 * 3 - 146 * 5);
        Check.execute(x, "penalty:0;");
        x.byHand(0, 0, 0, 0);
        Check.equal("value without a penalty", x.value(), 176 + 60 - 730);
        x.undo();
        x.undo();
        x.undo();
        Check.equal("value after undo", x.value(), 176);
        Cascade low = Check.after("add:9,0,0,0;need:0,999;penalty:99;");
        for (int i = 0; i < 41; i++) {
            low.operate(24, 0, 0);
        }
        Check.equal("value far below 0", low.value(), -984L * 999 * 99);
    }
}
