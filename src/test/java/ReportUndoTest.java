/** Promises 23 to 27: report, character, undo, save, restore. */
public final class ReportUndoTest {
    private static final String RESERVOIR = "add:100,20,50,80;";

    public static void main(String[] args) {
        words();
        reasonsInReports();
        theTargetIsThatOfNow();
        characters();
        undoing();
        sixCanBeUndone();
        whatUndoLeaves();
        saving();
        restoreEndsUndo();
        Check.finish("ReportUndoTest");
    }

    private static void word(String texts, String due) {
        Check.equal("report after " + texts, Check.report(Check.after(texts), 0), due);
    }

    private static void words() {
        word("add:100,20,50,20;", "0:20/100 dead");
        word("add:100,20,50,0;", "0:0/100 dead");
        word("add:100,20,50,21;", "0:21/100 low");
        word("add:100,20,50,99;", "0:99/100 low");
        word("add:100,20,50,100;", "0:100/100 full");
        word("add:100,100,50,100;", "0:100/100 dead");
        word("add:100,0,50,0;", "0:0/100 dead");
        word("add:9999,0,50,5000;curve:0,0,5000;", "0:5000/9999 good");
        word("add:9999,0,50,5000;curve:0,0,5001;", "0:5000/9999 low");
        word("add:9999,0,50,5000;curve:0,0,5001;factor:0,99;", "0:5000/9999 good");
        word("add:9999,0,50,5000;curve:0,0,5001;factor:1,0;", "0:5000/9999 low");
        word("add:9999,0,50,5000;curve:0,0,5001;curve:0,1,0;", "0:5000/9999 low");
        word("add:100,0,50,100;curve:0,0,9999;", "0:100/100 full");
        Cascade x = Check.after(RESERVOIR + "add:1,0,0,1;add:9,0,0,8;");
        Check.equal("report of 1", Check.report(x, 1), "1:1/1 full");
        Check.equal("report of 2", Check.report(x, 2), "2:8/9 low");
        Check.raises("report of 3", Check.INDEX, x, () -> x.report(3));
        Check.raises("report of -1", Check.INDEX, x, () -> x.report(-1));
    }

    private static void reasonsInReports() {
        String[] texts = {"curve:0,0,70;", "least:0,1;", "curve:0,0,0;", "need:0,70;least:0,5;"};
        String[] dues = {"0:70/100 low curve", "0:79/100 low least", "0:30/100 low turbine", "0:20/100 dead dead"};
        for (int i = 0; i < texts.length; i++) {
            Cascade x = Check.after(RESERVOIR + texts[i]);
            x.operate(1, 0, 0);
            Check.equal("report after a month, " + texts[i], Check.report(x, 0), dues[i]);
        }
        Cascade x = Check.after(RESERVOIR);
        x.byHand(0, 3, 0, 0);
        Check.equal("report after a month by hand", Check.report(x, 0), "0:77/100 low hand");
        Check.outcome(x, "price:;");
        Check.equal("report after an error", Check.report(x, 0), "0:77/100 low hand");
        Check.execute(x, "price:1;");
        Check.equal("report after execute", Check.report(x, 0), "0:77/100 low");
        x.undo();
        Check.equal("report after undo of execute", Check.report(x, 0), "0:77/100 low hand");
        x.undo();
        Check.equal("report after undo of byHand", Check.report(x, 0), "0:80/100 low");
    }

    private static void theTargetIsThatOfNow() {
        Cascade x = Check.after(RESERVOIR + "curve:0,1,80;");
        Check.equal("in month 0", Check.report(x, 0), "0:80/100 low");
        x.operate(1, 0, 0);
        Check.equal("in month 1", Check.report(x, 0), "0:80/100 good least");
        x.operate(12, 0, 2);
        Check.equal("in month 13", Check.report(x, 0), "0:48/100 low least");
        Check.execute(x, "curve:0,1,48;");
        Check.equal("in month 13, by another curve", Check.report(x, 0), "0:48/100 good");
    }

    private static void characters() {
        Cascade x = Check.after(RESERVOIR);
        Check.raises("character of no report", Check.INDEX, x, () -> x.character(0));
        Check.equal("length", x.report(0), 12);
        Check.equal("first", x.character(0), '0');
        Check.equal("second", x.character(1), ':');
        Check.equal("last", x.character(11), 'w');
        Check.raises("character 12", Check.INDEX, x, () -> x.character(12));
        Check.raises("character -1", Check.INDEX, x, () -> x.character(-1));
        Check.raises("character of the least index", Check.INDEX, x, () -> x.character(Integer.MIN_VALUE));
        Check.raises("report of 1", Check.INDEX, x, () -> x.report(1));
        Check.equal("the report stays", Check.reportOf(x, 12), "0:80/100 low");
        x.byHand(0, 50, 0, 0);
        Check.equal("the report is not written anew", Check.reportOf(x, 12), "0:80/100 low");
        Check.execute(x, "add:1,0,0,1;");
        Check.equal("a shorter report", x.report(1), 10);
        Check.raises("character behind a shorter one", Check.INDEX, x, () -> x.character(10));
        x.undo();
        Check.equal("undo leaves the report", Check.reportOf(x, 10), "1:1/1 full");
    }

    private static void undoing() {
        Cascade x = new Cascade();
        String[] states = new String[5];
        states[0] = Check.everything(x);
        Check.execute(x, RESERVOIR + "head:0,0,1;flow:0,0,0,9;curve:0,3,4;need:0,5;");
        states[1] = Check.everything(x);
        x.operate(3, 0, 1);
        states[2] = Check.everything(x);
        x.byHand(0, 3, 0, 0);
        states[3] = Check.everything(x);
        Check.execute(x, "add:9,0,0,9;stage:1,1,1;factor:1,1;price:2;penalty:3;waste:4;head:0,0,8;");
        states[4] = Check.everything(x);
        for (int left = 3; left >= 0; left--) {
            Check.equal("undo", x.undo(), left);
            Check.equal("the state after undo, " + left, Check.everything(x), states[left]);
            Check.equal("the count after undo", x.count(3), left);
        }
        Check.raises("undo of nothing", Check.STATE, x, x::undo);
        // Its row held the undone reservoir, with a table, an inflow and sums.
        Check.execute(x, RESERVOIR);
        Check.equal("a reservoir added anew has no need", x.reservoir(0, 4), 0);
        Check.equal("a reservoir added anew has no entries", x.reservoir(0, 6), 0);
        Check.equal("a reservoir added anew has no inflow", x.inflow(0, 0, 0), 0);
        Check.equal("a reservoir added anew has its capacity as target", x.target(0, 3, 0), 100);
        Check.equal("a reservoir added anew has no sums", x.account(0, 5), 0);
        Check.equal("a reservoir added anew has no difference", x.difference(0), 0);
    }

    private static void sixCanBeUndone() {
        Cascade x = Check.after(RESERVOIR);
        for (int i = 1; i <= 9; i++) {
            Check.equal("undoable before " + i, x.count(3), Math.min(6, i));
            x.byHand(0, 1, 0, 0);
        }
        for (int left = 5; left >= 0; left--) {
            Check.equal("undo", x.undo(), left);
            Check.equal("month after undo", x.count(1), 3 + left);
            Check.equal("storage after undo", x.reservoir(0, 3), 77 - left);
        }
        Check.raises("a seventh undo", Check.STATE, x, x::undo);
        x.operate(1, 0, 0);
        Check.outcome(x, "price:100;");
        Check.equal("undoable after one call, and one that failed", x.count(3), 1);
        Check.equal("undo after undo", x.undo(), 0);
        Check.equal("the month of the oldest state", x.count(1), 3);
    }

    private static void whatUndoLeaves() {
        Cascade x = Check.after(RESERVOIR);
        x.operate(2, 0, 0);
        x.save();
        x.operate(2, 0, 0);
        Check.outcome(x, "price:x;");
        Check.append(x, "price:9;");
        int length = x.report(0);
        x.undo();
        Check.equal("the buffer stays", x.count(4), 8);
        Check.equal("the error position stays", x.errorPosition(), 6);
        Check.equal("the report stays", Check.reportOf(x, length), "0:80/100 low least");
        x.undo();
        Check.equal("the month before both", x.count(1), 0);
        Check.equal("the snapshot stays", x.restore(), 2);
        Check.equal("the buffer is executed", x.execute(), 1);
        Check.equal("the price from the buffer", x.count(5), 9);
    }

    private static void saving() {
        Cascade x = Check.after(RESERVOIR + "flow:0,0,0,9;head:0,0,2;");
        Check.raises("restore of nothing", Check.STATE, x, x::restore);
        x.operate(3, 0, 0);
        String before = Check.everything(x);
        Check.equal("save", x.save(), 3);
        Check.equal("save changes nothing", Check.everything(x), before);
        Check.equal("save leaves what can be undone", x.count(3), 2);
        Check.execute(x, "add:5,0,0,5;price:4;head:0,0,7;stage:2,2,2;factor:2,2;waste:3;penalty:1;");
        x.operate(4, 1, 2);
        Check.append(x, "pri");
        int length = x.report(1);
        Check.equal("restore", x.restore(), 3);
        Check.equal("the state after restore", Check.everything(x), before);
        Check.equal("the buffer stays", x.count(4), 3);
        Check.equal("the report stays", Check.reportOf(x, length), "1:5/5 full turbine");
        Check.equal("the latest month after restore", x.latest(0, 0), 89);
        x.operate(5, 0, 0);
        Check.equal("restore once more", x.restore(), 3);
        Check.equal("the state after the second restore", Check.everything(x), before);
        x.operate(6, 0, 0);
        Check.equal("save in place of it", x.save(), 9);
        x.operate(1, 0, 0);
        Check.equal("restore the later one", x.restore(), 9);
        Cascade empty = new Cascade();
        Check.equal("save of nothing", empty.save(), 0);
        Check.execute(empty, RESERVOIR);
        Check.equal("restore of nothing saved", empty.restore(), 0);
        Check.equal("no reservoirs then", empty.count(0), 0);
    }

    private static void restoreEndsUndo() {
        Cascade x = Check.after(RESERVOIR);
        x.save();
        x.operate(1, 0, 0);
        x.operate(1, 0, 0);
        x.restore();
        Check.equal("undoable after restore", x.count(3), 0);
        Check.raises("undo after restore", Check.STATE, x, x::undo);
        x.operate(1, 0, 0);
        Check.equal("undo after restore and operate", x.undo(), 0);
        Check.equal("month after it", x.count(1), 0);
        Check.equal("the snapshot is kept", x.restore(), 0);
    }
}
