/** Promises 23 to 28: reports, undo, snapshots and counts. */
final class UndoEdges {
    private static final String ONE = "add:100,20,50,80;";
    private static final String LONGEST = "2:9998/9999 good turbine";

    private UndoEdges() {
    }

    static void run() {
        report();
        character();
        undo();
        save();
        restore();
        count();
    }

    private static void reportIs(String texts, String due) {
        Check.equal("report after " + texts, Check.report(Check.after(texts), 0), due);
    }

    private static void report() {
        Edges.test("Promise 23", "its number, a colon, its storage, a slash, its capacity, a space, and a word", () -> {
            Cascade x = Check.after("add:1,0,0,0;add:9999,0,0,9999;add:9999,0,1,9999;curve:2,1,0;");
            Check.equal("the shortest numbers", Check.report(x, 0), "0:0/1 dead");
            Check.equal("the longest numbers", Check.report(x, 1), "1:9999/9999 full");
            x.byHand(0, 0, 0, 2);
            Check.equal("the longest report", Check.report(x, 2), LONGEST);
        });
        Edges.test("Promise 23", "dead if its storage is not greater than its dead storage", () -> {
            reportIs("add:100,20,50,19;", "0:19/100 dead");
            reportIs("add:100,20,50,20;", "0:20/100 dead");
            reportIs("add:100,20,50,21;curve:0,0,0;", "0:21/100 good");
            reportIs("add:100,100,50,100;", "0:100/100 dead");
            reportIs("add:100,0,50,0;curve:0,0,0;", "0:0/100 dead");
        });
        Edges.test("Promise 23", "otherwise full if it is its capacity", () -> {
            reportIs("add:100,99,50,100;", "0:100/100 full");
            reportIs("add:100,0,50,100;curve:0,0,0;", "0:100/100 full");
            reportIs("add:100,0,50,99;curve:0,0,0;", "0:99/100 good");
            reportIs("add:1,0,0,1;", "0:1/1 full");
        });
        Edges.test("Promise 23", "otherwise low if it is less than its target by plan 0 in the present month", () -> {
            reportIs("add:100,0,50,50;curve:0,0,51;", "0:50/100 low");
            reportIs("add:100,0,50,50;curve:0,0,51;curve:0,1,0;", "0:50/100 low");
            reportIs("add:100,0,50,50;curve:0,0,51;factor:1,0;factor:2,0;factor:3,0;", "0:50/100 low");
            reportIs("add:100,0,50,50;curve:0,0,25;factor:0,200;", "0:50/100 good");
            reportIs("add:100,0,50,50;curve:0,0,26;factor:0,200;", "0:50/100 low");
        });
        Edges.test("Promise 23", "otherwise good", () -> {
            reportIs("add:100,0,50,50;curve:0,0,50;", "0:50/100 good");
            reportIs("add:100,0,50,50;curve:0,0,49;", "0:50/100 good");
            reportIs("add:100,0,50,1;curve:0,0,0;", "0:1/100 good");
        });
        Edges.test("In doubt", "The target in a report is that of the present month, which is not operated yet", () -> {
            Cascade x = Check.after("add:100,0,0,50;curve:0,1,50;curve:0,2,51;curve:0,11,20;curve:0,0,90;");
            Check.equal("in month 0", Check.report(x, 0), "0:50/100 low");
            x.byHand(0, 0, 0, 0);
            Check.equal("in month 1", Check.report(x, 0), "0:50/100 good hand");
            x.byHand(0, 0, 0, 0);
            Check.equal("in month 2", Check.report(x, 0), "0:50/100 low hand");
            x.operate(9, 0, 0);
            Check.equal("in month 11", Check.report(x, 0), "0:50/100 good least");
            x.byHand(0, 0, 0, 0);
            Check.equal("in month 12", Check.report(x, 0), "0:50/100 low hand");
        });
        reasons();
        Edges.test("Promise 23", "Returns the length of the report", () -> {
            Check.equal("without a month", Check.after(ONE).report(0), "0:80/100 low".length());
            Cascade x = Check.after("add:1,0,0,0;add:9999,0,0,9999;add:9999,0,1,9999;curve:2,1,0;");
            x.byHand(0, 0, 0, 2);
            Check.equal("the longest", x.report(2), LONGEST.length());
        });
        Edges.test("Promise 23", "- `reservoir`: the reservoir", () -> {
            Cascade x = Check.after("add:1,0,0,1;add:2,0,0,2;add:3,0,0,3;");
            for (int r = 0; r < 3; r++) {
                Check.equal("reservoir " + r, Check.report(x, r), r + ":" + (r + 1) + "/" + (r + 1) + " full");
            }
        });
        Edges.test("Promise 23", "Throws `IndexOutOfBoundsException` if there is no such reservoir", () -> {
            Cascade x = Check.after("add:1,0,0,1;add:2,0,0,2;add:3,0,0,3;");
            Edges.bounds(x, 0, 2, Check.INDEX, r -> () -> x.report(r));
            Cascade empty = new Cascade();
            Check.raises("reservoir 0 of none", Check.INDEX, empty, () -> empty.report(0));
        });
    }

    private static void reasons() {
        Edges.test("Promise 23", "If a month was operated since the latest successful execute", () -> {
            Cascade x = Check.after(ONE);
            Check.equal("no month", Check.report(x, 0), "0:80/100 low");
            x.byHand(0, 0, 0, 0);
            Check.equal("a month", Check.report(x, 0), "0:80/100 low hand");
            Check.outcome(x, "price:100;");
            Check.equal("an execute that failed", Check.report(x, 0), "0:80/100 low hand");
            Check.execute(x, "price:1;");
            Check.equal("an execute", Check.report(x, 0), "0:80/100 low");
            x.operate(1, 0, 0);
            Check.equal("another month", Check.report(x, 0), "0:80/100 low least");
        });
        Edges.test("Promise 23", "curve, least, turbine, dead or hand, for the reasons 0 to 4", () -> {
            String[] texts = {"curve:0,0,80;", "curve:0,0,81;", "least:0,51;", "need:0,60;least:0,9;"};
            String[] words = {"curve", "least", "turbine", "dead"};
            for (int reason = 0; reason < 4; reason++) {
                Cascade x = Check.after(ONE + texts[reason]);
                x.operate(1, 0, 0);
                Check.equal("reason", x.latest(0, 7), reason);
                Check.equal("its word", Check.report(x, 0).endsWith(" " + words[reason]), true);
            }
            Cascade x = Check.after(ONE);
            x.byHand(0, 0, 0, 0);
            Check.equal("reason", x.latest(0, 7), 4);
            Check.equal("its word", Check.report(x, 0).endsWith(" hand"), true);
        });
    }

    private static void character() {
        Edges.test("Promise 24", "a character of the latest report, which is empty at first", () -> {
            Cascade x = new Cascade();
            Check.raises("at first", Check.INDEX, x, () -> x.character(0));
            Check.execute(x, ONE + "add:1,0,0,1;");
            Check.raises("without a report", Check.INDEX, x, () -> x.character(0));
            x.report(0);
            Check.equal("the first report", x.character(0), '0');
            x.report(1);
            Check.equal("the second report", x.character(0), '1');
            Check.raises("a report of none", Check.INDEX, x, () -> x.report(2));
            Check.equal("the second report still", x.character(0), '1');
            x.byHand(0, 0, 0, 0);
            Check.equal("it isn't written anew", Check.reportOf(x, 10), "1:1/1 full");
        });
        Edges.test("Promise 24", "`index`: the index, from 0", () -> {
            Cascade x = Check.after(ONE);
            String due = "0:80/100 low";
            x.report(0);
            for (int i = 0; i < due.length(); i++) {
                Check.equal("character " + i, x.character(i), due.charAt(i));
            }
        });
        Edges.test("Promise 24", "Throws `IndexOutOfBoundsException` if there is no such index", () -> {
            Cascade x = Check.after(ONE + "add:1,0,0,1;");
            int length = x.report(0);
            Edges.bounds(x, 0, length - 1, Check.INDEX, index -> () -> x.character(index));
            int shorter = x.report(1);
            Edges.bounds(x, 0, shorter - 1, Check.INDEX, index -> () -> x.character(index));
        });
    }

    private static void undo() {
        Edges.test("Promise 25", "Undoes the latest successful call of execute, operate or byHand that was not undone",
                UndoEdges::undoesEachOfThem);
        Edges.test("Promise 25", "At most 6 can be undone", () -> {
            Cascade x = Check.after(ONE);
            for (int i = 1; i <= 8; i++) {
                Check.equal("before call " + i, x.count(3), Math.min(i, 6));
                x.byHand(0, 1, 0, 0);
            }
            for (int left = 5; left >= 0; left--) {
                Check.equal("undo", x.undo(), left);
                Check.equal("month", x.count(1), 2 + left);
                Check.equal("storage", x.reservoir(0, 3), 78 - left);
            }
            Check.raises("the seventh", Check.STATE, x, x::undo);
            Check.equal("month of the seventh", x.count(1), 2);
        });
        Edges.test("Promise 25", "Returns the number of calls that can still be undone", () -> {
            Cascade x = Check.after(ONE);
            x.operate(24, 0, 0);
            Check.equal("a call of 24 months is one", x.undo(), 1);
            Check.equal("month", x.count(1), 0);
            Check.equal("the execute", x.undo(), 0);
            Check.equal("reservoirs", x.count(0), 0);
        });
        Edges.test("Promise 25", "Throws `IllegalStateException` if there is none", () -> {
            Cascade x = new Cascade();
            Check.raises("of a new object", Check.STATE, x, x::undo);
            Check.execute(x, ONE);
            x.undo();
            Check.raises("of one that is undone", Check.STATE, x, x::undo);
            Check.outcome(x, "!");
            Check.raises("of an execute that failed", Check.STATE, x, x::undo);
            Check.raises("by hand of nothing", Check.STATE, x, () -> x.byHand(0, 0, 0, 0));
            Check.raises("of a call that was refused", Check.STATE, x, x::undo);
        });
        Edges.test("In doubt", "What undo and restore bring back includes the latest month and the sums over months",
                UndoEdges::theLatestMonthComesBack);
        Edges.test("In doubt", "The buffer, the error position and the report are not brought back by undo", () -> {
            Cascade x = Check.after(ONE);
            x.byHand(0, 1, 0, 0);
            x.report(0);
            x.byHand(0, 1, 0, 0);
            Check.outcome(x, "price:!");
            Check.append(x, "waste:7;");
            int length = x.report(0);
            x.undo();
            Check.equal("characters in the buffer", x.count(4), 8);
            Check.equal("error position", x.errorPosition(), 6);
            Check.equal("report", Check.reportOf(x, length), "0:78/100 low hand");
            x.undo();
            x.undo();
            Check.equal("characters in the buffer after all", x.count(4), 8);
            Check.equal("error position after all", x.errorPosition(), 6);
            Check.equal("report after all", Check.reportOf(x, length), "0:78/100 low hand");
            Check.equal("the buffer is executed", x.execute(), 1);
            Check.equal("its error position", x.errorPosition(), -1);
            x.undo();
            Check.equal("undo of it leaves the buffer empty", x.count(4), 0);
        });
    }

    private static void undoesEachOfThem() {
        Cascade x = new Cascade();
        String[] states = new String[4];
        states[0] = Check.everything(x);
        Check.execute(x, ONE + "head:0,0,3;need:0,2;flow:0,0,0,4;");
        states[1] = Check.everything(x);
        x.operate(2, 0, 0);
        states[2] = Check.everything(x);
        x.byHand(0, 5, 0, 0);
        states[3] = Check.everything(x);
        Check.execute(x, "add:9,0,0,9;head:0,0,9;head:0,1,9;curve:0,0,1;factor:0,1;stage:1,1,1;price:9;");
        // Neither refused calls nor those that look ahead nor save are undone.
        Check.outcome(x, "price:!");
        Check.raises("operate", Check.ARGUMENT, x, () -> x.operate(25, 0, 0));
        x.ahead(24, 0, 0, 0);
        x.best(2, 0);
        x.save();
        for (int left = 3; left >= 0; left--) {
            x.undo();
            Check.equal("the state before call " + left, Check.everything(x), states[left]);
        }
        Check.execute(x, ONE);
        x.byHand(0, 7, 0, 0);
        x.undo();
        Check.equal("undo after undo and other calls", x.reservoir(0, 3), 80);
    }

    private static void theLatestMonthComesBack() {
        Cascade x = Check.after(ONE + "head:0,0,2;flow:0,0,0,3;need:0,1;");
        x.byHand(0, 10, 0, 0);
        x.save();
        String latest = Check.everything(x);
        long value = x.value();
        x.byHand(0, 20, 0, 0);
        x.undo();
        Check.equal("after undo of a month", Check.everything(x), latest);
        Check.execute(x, "price:1;");
        Check.raises("after execute", Check.STATE, x, () -> x.latest(0, 4));
        x.undo();
        Check.equal("release after undo of execute", x.latest(0, 4), 10);
        Check.equal("sum of releases", x.account(0, 3), 10);
        Check.equal("value", x.value(), value);
        x.operate(9, 0, 0);
        Check.execute(x, "price:1;");
        x.restore();
        Check.equal("release after restore", x.latest(0, 4), 10);
        Check.equal("after restore", Check.everything(x), latest);
        Cascade y = Check.after(ONE);
        y.save();
        y.byHand(0, 10, 0, 0);
        y.restore();
        Check.raises("no month before save", Check.STATE, y, () -> y.latest(0, 4));
        Check.equal("no sums before save", y.account(0, 3), 0);
    }

    private static void save() {
        Edges.test("Promise 26",
                "Saves everything but the buffer, the error position, the report and what can be undone", () -> {
            Cascade x = Check.after(ONE + "add:50,0,9,40;head:0,0,2;need:1,3;flow:3,1,5,7;curve:1,2,3;");
            Check.execute(x, "stage:2,20,30;factor:3,40;price:5;penalty:6;waste:7;");
            x.operate(7, 3, 1);
            Check.outcome(x, "!");
            x.report(1);
            String saved = Check.everything(x);
            String all = Check.all(x);
            x.save();
            Check.equal("save itself changes nothing", Check.all(x), all);
            Check.execute(x, "add:9,0,0,9;head:0,0,3;need:1,4;flow:3,1,5,8;curve:1,2,4;stage:2,1,1;factor:3,1;");
            Check.execute(x, "price:1;penalty:1;waste:1;");
            x.byHand(0, 1, 1, 1);
            Check.append(x, "price");
            int length = x.report(0);
            String report = Check.reportOf(x, length);
            x.restore();
            Check.equal("all that was saved", Check.everything(x), saved);
            Check.equal("the buffer", x.count(4), 5);
            Check.equal("the error position", x.errorPosition(), -1);
            Check.equal("the report", Check.reportOf(x, length), report);
        });
        Edges.test("Promise 26", "in place of an earlier snapshot", () -> {
            Cascade x = Check.after(ONE);
            x.save();
            x.operate(2, 0, 0);
            x.save();
            x.operate(2, 0, 0);
            Check.equal("restore", x.restore(), 2);
            Check.equal("restore again", x.restore(), 2);
        });
        Edges.test("Promise 26", "Returns the present month", () -> {
            Cascade x = new Cascade();
            Check.equal("of a new object", x.save(), 0);
            Check.execute(x, ONE);
            x.operate(24, 0, 0);
            Check.equal("then", x.save(), 24);
        });
    }

    private static void restore() {
        Edges.test("Promise 27", "Restores the snapshot, which is kept", () -> {
            Cascade x = Check.after(ONE);
            x.operate(3, 0, 0);
            x.save();
            String saved = Check.everything(x);
            for (int i = 0; i < 3; i++) {
                x.byHand(0, 9, 0, 0);
                Check.execute(x, "price:" + (5 + i) + ";head:0,0,9;");
                x.restore();
                Check.equal("restored " + i, Check.everything(x), saved);
            }
            Check.execute(x, "price:9;");
            x.undo();
            Check.equal("kept when a call is undone", x.restore(), 3);
        });
        Edges.test("Promise 27", "Nothing can be undone then", () -> {
            Cascade x = Check.after(ONE);
            x.save();
            x.operate(1, 0, 0);
            x.restore();
            Check.equal("calls to undo", x.count(3), 0);
            Check.raises("undo", Check.STATE, x, x::undo);
            x.operate(1, 0, 0);
            Check.equal("calls made since then can", x.undo(), 0);
            Check.raises("undo again", Check.STATE, x, x::undo);
        });
        Edges.test("Promise 27", "Returns the present month", () -> {
            Cascade x = Check.after(ONE);
            x.save();
            x.operate(5, 0, 0);
            Check.equal("of the snapshot", x.restore(), 0);
            Check.equal("told", x.count(1), 0);
        });
        Edges.test("Promise 27", "Throws `IllegalStateException` if there is no snapshot", () -> {
            Cascade x = Check.after(ONE);
            Check.raises("never saved", Check.STATE, x, x::restore);
            x.save();
            Edges.answers("saved", x::restore);
        });
    }

    private static void count() {
        Edges.test("Promise 28", "0 for the reservoirs, 1 for the present month, 2 for the filling,"
                + " 3 for the calls that can be undone, 4 for the characters in the buffer", () -> {
            Cascade x = Check.after("add:100,0,0,77;add:50,0,0,30;", "price:1;");
            x.operate(9, 0, 0);
            Check.append(x, "price");
            int[] dues = {2, 9, 71, 3, 5};
            for (int what = 0; what < 5; what++) {
                Check.equal("count " + what, x.count(what), dues[what]);
            }
        });
        Edges.test("Promise 28", "5 for the price, 6 for the penalty, 7 for the waste", () -> {
            Cascade x = Check.after("price:97;penalty:98;waste:99;");
            for (int what = 5; what < 8; what++) {
                Check.equal("count " + what, x.count(what), 92 + what);
            }
        });
        Edges.test("Promise 28", "10 + p for the factor of plan p", () -> {
            Cascade x = Check.after("factor:0,10;factor:1,11;factor:2,12;factor:3,13;");
            for (int what = 10; what < 14; what++) {
                Check.equal("count " + what, x.count(what), what);
            }
        });
        Edges.test("Promise 28", "20 + k for the threshold and 30 + k for the share of stage k, from 1", () -> {
            Cascade x = Check.after("stage:1,21,31;stage:2,22,32;stage:3,23,33;");
            for (int what = 21; what < 24; what++) {
                Check.equal("count " + what, x.count(what), what);
                Check.equal("count " + (10 + what), x.count(10 + what), 10 + what);
            }
            Check.raises("the threshold of stage 0", Check.ARGUMENT, x, () -> x.count(20));
            Check.raises("the share of stage 0", Check.ARGUMENT, x, () -> x.count(30));
        });
        Edges.test("Promise 28", "Throws `IllegalArgumentException` if there is no such what", () -> {
            Cascade x = Check.after(ONE);
            int[] none = {Integer.MIN_VALUE, -1, 8, 9, 14, 19, 20, 24, 29, 30, 34, Integer.MAX_VALUE};
            for (int what : none) {
                Check.raises("count " + what, Check.ARGUMENT, x, () -> x.count(what));
            }
            for (int what : new int[] {0, 7, 10, 13, 21, 23, 31, 33}) {
                Edges.answers("count " + what, () -> x.count(what));
            }
        });
    }
}
