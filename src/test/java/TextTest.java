/** Promises 1 to 4: a new object, append, execute, errorPosition. */
public final class TextTest {
    private static final String RESERVOIR = "add:100,20,50,80;";

    public static void main(String[] args) {
        newObject();
        appendPacks();
        appendRefuses();
        appendIsFullAt80();
        textsAreRead();
        textsInError();
        rangesOfNumbers();
        errorsThatNeedReservoirs();
        tableIsFull();
        anEarlierTextIsForgotten();
        anErrorExecutesNothing();
        errorPositionFollowsTheLatestText();
        Check.finish("TextTest");
    }

    private static void newObject() {
        Cascade x = new Cascade();
        int[] whats = {0, 1, 2, 3, 4, 5, 6, 7, 10, 11, 12, 13, 21, 22, 23, 31, 32, 33};
        int[] dues = {0, 0, 0, 0, 0, 1, 5, 0, 100, 80, 60, 120, 50, 30, 15, 80, 60, 40};
        for (int i = 0; i < whats.length; i++) {
            Check.equal("new: count " + whats[i], x.count(whats[i]), dues[i]);
        }
        for (int what = 0; what < 7; what++) {
            Check.equal("new: account " + what, x.account(-1, what), 0);
        }
        Check.equal("new: value", x.value(), 0);
        Check.equal("new: stage", x.stage(), 3);
        Check.equal("new: errorPosition", x.errorPosition(), -1);
        Check.raises("new: reservoir", Check.INDEX, x, () -> x.reservoir(0, 0));
        Check.raises("new: undo", Check.STATE, x, x::undo);
        Check.raises("new: restore", Check.STATE, x, x::restore);
        Check.raises("new: character", Check.INDEX, x, () -> x.character(0));
        execute(RESERVOIR, "1");
    }

    private static void execute(String text, String due) {
        Check.equal("execute " + text, Check.outcome(new Cascade(), text), due);
    }

    private static void appendPacks() {
        Cascade x = new Cascade();
        Check.equal("append nothing", x.append(0), 0);
        Check.equal("append the first byte", x.append('p' << 24), 1);
        Check.equal("append the last byte", x.append('r'), 2);
        Check.equal("append with gaps", x.append('i' << 24 | 'c'), 4);
        Check.equal("append inner bytes", x.append('e' << 16 | ':' << 8), 6);
        Check.equal("append three", x.append('7' << 24 | '3' << 16 | ';'), 9);
        Check.equal("count of characters", x.count(4), 9);
        Check.equal("execute what was packed", x.execute(), 1);
        Check.equal("price from the packed text", x.count(5), 73);
        Check.equal("buffer afterwards", x.count(4), 0);
    }

    private static void appendRefuses() {
        Cascade x = new Cascade();
        Check.append(x, "ab");
        int[] bad = {32, 1, 10, 127, 128, 200, 255};
        for (int sign : bad) {
            for (int shift = 0; shift < 32; shift += 8) {
                int packed = sign << shift;
                Check.raises("append byte " + sign + " at " + shift, Check.ARGUMENT, x, () -> x.append(packed));
            }
            int behindGood = 'a' << 24 | 'b' << 16 | sign << 8 | 'c';
            Check.raises("append " + sign + " behind good ones", Check.ARGUMENT, x, () -> x.append(behindGood));
        }
        Check.equal("append the least and the greatest", x.append(33 << 8 | 126), 4);
    }

    private static void appendIsFullAt80() {
        Cascade x = new Cascade();
        Check.equal("append 79", Check.append(x, "p".repeat(79)), 79);
        Check.raises("append two to 79", Check.STATE, x, () -> x.append('a' << 8 | 'b'));
        Check.raises("append four to 79", Check.STATE, x, () -> x.append(0x61626364));
        Check.equal("append the 80th", x.append('a'), 80);
        Check.equal("append nothing to 80", x.append(0), 80);
        Check.raises("append the 81st", Check.STATE, x, () -> x.append('a'));
        Check.raises("append a bad byte to 80", Check.ARGUMENT, x, () -> x.append(' '));
    }

    private static void textsAreRead() {
        execute("price:9;", "1");
        execute("price:0099;", "1");
        execute("price:1;penalty:2;waste:3;factor:0,4;stage:1,2,3;", "5");
        execute("add:1,0,0,0;need:0,1;least:0,2;head:0,3,4;curve:0,5,6;flow:0,0,7,8;", "6");
        execute("price:1;price:1;price:1;price:1;price:1;price:1;price:1;price:1;price:1;price:1;", "10");
        Cascade x = Check.after("price:1;price:2;price:3;");
        Check.equal("commands in their order", x.count(5), 3);
        Check.equal("zeros at the beginning", Check.outcome(x, "price:0007;"), "1");
        Check.equal("price by zeros", x.count(5), 7);
    }

    private static void textsInError() {
        execute("", "error 0");
        execute("a", "error 0");
        execute("price:1;pri", "error 8");
        execute("add", "error 3");
        execute("add:", "error 4");
        execute("add:5", "error 5");
        execute("add:5,", "error 6");
        execute("add:5,1,1,1", "error 11");
        execute("adds:1;", "error 0");
        execute("ad:1;", "error 0");
        execute("xdd:1,0,0,0;", "error 0");
        execute("addz:1,0,0,0;", "error 0");
        execute("add;", "error 3");
        execute("addA:1;", "error 3");
        execute("Add:1;", "error 0");
        execute("aDd:1;", "error 0");
        execute(":", "error 0");
        execute(";", "error 0");
        execute("7", "error 0");
        execute("price1;", "error 5");
        execute("price::1;", "error 6");
        execute("price:;", "error 6");
        execute("price:,1;", "error 6");
        execute("price:-1;", "error 6");
        execute("price:1x;", "error 7");
        execute("price:1:", "error 7");
        execute("price:1,", "error 7");
        execute("price:1,2;", "error 7");
        execute("price:1;;", "error 8");
        execute("price:1;Q", "error 8");
        execute("price:1;price", "error 13");
        execute("price:100", "error 6");
        execute("price:12345;", "error 6");
        execute("price:00012;", "error 10");
        execute("price:0001", "error 10");
        execute("factor:1;", "error 8");
        execute("factor:1,,2;", "error 9");
        execute("factor:1,2,3;", "error 10");
        execute("price:1;adx:1;price:100;", "error 8");
    }

    /** Each number of each command: its least and greatest value pass, those beside them don't. */
    private static void rangesOfNumbers() {
        range("add:", ",0,0,0;", 1, 9999);
        range("add:300,", ",0,0;", 0, 300);
        range("add:300,300,", ",0;", 0, 999);
        range("add:300,0,0,", ";", 0, 300);
        range("need:", ",0;", 0, 0);
        range("need:0,", ";", 0, 999);
        range("least:", ",0;", 0, 0);
        range("least:0,", ";", 0, 999);
        range("head:", ",0,1;", 0, 0);
        range("head:0,", ",1;", 0, 9999);
        range("head:0,0,", ";", 1, 99);
        range("curve:", ",0,0;", 0, 0);
        range("curve:0,", ",0;", 0, 11);
        range("curve:0,0,", ";", 0, 9999);
        range("flow:", ",0,0,0;", 0, 3);
        range("flow:0,", ",0,0;", 0, 0);
        range("flow:0,0,", ",0;", 0, 11);
        range("flow:0,0,0,", ";", 0, 999);
        range("stage:", ",0,0;", 1, 3);
        range("stage:1,", ",0;", 0, 100);
        range("stage:1,0,", ";", 0, 100);
        range("factor:", ",0;", 0, 3);
        range("factor:0,", ";", 0, 200);
        range("price:", ";", 0, 99);
        range("penalty:", ";", 0, 99);
        range("waste:", ";", 0, 99);
    }

    private static void range(String before, String behind, int least, int most) {
        outcomeWithReservoir(before + least + behind, "1");
        outcomeWithReservoir(before + most + behind, "1");
        if (least > 0) {
            outcomeWithReservoir(before + (least - 1) + behind, "error " + before.length());
        }
        String tooMany = most == 9999 ? "error " + (before.length() + 4) : "error " + before.length();
        outcomeWithReservoir(before + (most + 1) + behind, tooMany);
    }

    private static void outcomeWithReservoir(String text, String due) {
        Check.equal("execute " + text, Check.outcome(Check.after(RESERVOIR), text), due);
    }

    private static void errorsThatNeedReservoirs() {
        execute("need:0,1;", "error 5");
        execute("flow:0,0,0,0;", "error 7");
        execute(RESERVOIR + "need:0,1;", "2");
        execute("need:0,1;" + RESERVOIR, "error 5");
        execute(RESERVOIR + "need:1,1;", "error 22");
        Cascade x = Check.after(RESERVOIR + RESERVOIR);
        Check.equal("a fourth in one text", Check.outcome(x, RESERVOIR + "add:1"), "error 17");
        Check.equal("none of them was added", x.count(0), 2);
        Check.equal("the third", Check.outcome(x, RESERVOIR), "1");
        Check.equal("the fourth", Check.outcome(x, RESERVOIR), "error 0");
        Check.equal("the fourth, too short", Check.outcome(x, "add"), "error 0");
        Check.equal("the fourth reservoir", Check.outcome(x, "need:3,1;"), "error 5");
        Check.equal("the third reservoir", Check.outcome(x, "need:2,1;"), "1");
    }

    private static void tableIsFull() {
        Cascade x = Check.after(RESERVOIR + "head:0,10,1;head:0,20,2;head:0,30,3;head:0,40,4;");
        Check.equal("a sixth in one text", Check.outcome(x, "head:0,50,5;head:0,10,9;head:0,60,6;"), "error 34");
        Check.equal("entries after it", x.reservoir(0, 6), 4);
        Check.equal("a fifth, and two replaced", Check.outcome(x, "head:0,50,5;head:0,10,9;head:0,50,8;"), "3");
        Check.equal("entries", x.reservoir(0, 6), 5);
        Check.equal("the first one replaced", x.head(0, 10), 9);
        Check.equal("the last one replaced", x.head(0, 50), 8);
        Check.equal("a sixth", Check.outcome(x, "head:0,60,6;"), "error 10");
        Check.equal("a sixth without its head", Check.outcome(x, "head:0,60,;"), "error 10");
        Check.equal("a sixth that ends early", Check.outcome(x, "head:0,60"), "error 9");
        Check.equal("another reservoir has its own table", Check.outcome(x, RESERVOIR + "head:1,60,6;"), "2");
    }

    private static void anEarlierTextIsForgotten() {
        Cascade x = Check.after("price:12;");
        Check.equal("a number that ends early", Check.outcome(x, "price:1"), "error 7");
        Check.equal("a longer word", Check.outcome(x, "adds:1;"), "error 0");
        Check.equal("a word that ends early", Check.outcome(x, "add"), "error 3");
        Check.equal("a command that ends early", Check.outcome(x, "price:1"), "error 7");
        Check.equal("the price of the earlier text", x.count(5), 12);
    }

    private static void anErrorExecutesNothing() {
        Cascade x = Check.after(RESERVOIR + "head:0,1,1;flow:0,0,0,5;");
        x.operate(1, 0, 0);
        String before = Check.everything(x);
        String wrong = "price:9;waste:9;" + RESERVOIR + "need:0,7;head:0,2,9;flow:0,0,0,9;stage:1,1,1;x";
        Check.equal("an error at the end", Check.outcome(x, wrong), "error " + (wrong.length() - 1));
        Check.equal("the state after an error", Check.everything(x), before);
        Check.equal("the buffer after an error", x.count(4), 0);
        Check.equal("the calls to undo after an error", x.count(3), 2);
        Check.equal("a text after an error", Check.outcome(x, "price:2;"), "1");
    }

    private static void errorPositionFollowsTheLatestText() {
        Cascade x = new Cascade();
        Check.equal("at first", x.errorPosition(), -1);
        Check.outcome(x, "price:x;");
        Check.equal("after an error", x.errorPosition(), 6);
        Check.append(x, "price:1;");
        Check.equal("before execute", x.errorPosition(), 6);
        x.execute();
        Check.equal("after a text without an error", x.errorPosition(), -1);
        Check.outcome(x, "");
        Check.equal("after an empty text", x.errorPosition(), 0);
        x.undo();
        Check.equal("after undo", x.errorPosition(), 0);
    }
}
