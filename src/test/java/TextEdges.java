/** The sentences about texts, and promises 1 to 4: a new object, append, execute, errorPosition. */
final class TextEdges {
    private static final String ONE = "add:100,20,50,80;";
    private static final String FULL = "add:1,0,0,0;add:1,0,0,0;add:1,0,0,0;";
    private static final String FIVE = "head:0,1,1;head:0,2,2;head:0,3,3;head:0,4,4;head:0,5,5;";
    private static final String[] WORDS = {
        "add", "need", "least", "head", "curve", "flow", "stage", "factor", "price", "penalty", "waste"};
    private static final String[] NUMBERS = {
        "100,20,50,80", "0,1", "0,1", "0,1,1", "0,1,1", "1,0,1,1", "1,1,1", "1,1", "1", "1", "1"};

    private TextEdges() {
    }

    static void run() {
        forms();
        words();
        positions();
        newObject();
        append();
        execute();
        errorPosition();
    }

    private static void forms() {
        Edges.test("Text", "A buffer holds at most 80 characters", () -> {
            Cascade x = new Cascade();
            Check.equal("a text of 80", Check.append(x, "price:1;".repeat(9) + "price:9;"), 80);
            Check.raises("the 81st", Check.STATE, x, () -> x.append(';'));
            Check.equal("all 80 are executed", x.execute(), 10);
            Check.equal("the last of them", x.count(5), 9);
            Check.equal("the buffer takes 80 again", Check.append(x, "p".repeat(80)), 80);
        });
        Edges.test("Text", "text = command { command }", () -> {
            Edges.error("", "", 0);
            Edges.done("", "price:1;", 1);
            Edges.done("", "price:1;waste:1;", 2);
            Edges.done("", "price:1;".repeat(10), 10);
            Edges.error("", "price:1;:", 8);
        });
        Edges.test("Text", "command = word \":\" number { \",\" number } \";\"", TextEdges::signsOfACommand);
        Edges.test("Text", "A word consists of small letters, and is read as far as they go", () -> {
            Edges.error("", "Price:1;", 0);
            Edges.error("", "prIce:1;", 0);
            Edges.error("", "pricE:1;", 0);
            Edges.error("", "prices:1;", 0);
            Edges.error("", "pricea:1;", 0);
            Edges.error("", "pricez:1;", 0);
            Edges.error("", "pricewaste:1;", 0);
            Edges.error("", "priceS:1;", 5);
            Edges.error("", "price{:1;", 5);
            Edges.error("", "price`:1;", 5);
            Edges.error("", "{price:1;", 0);
            Edges.error("", "price1:1;", 5);
        });
        Edges.test("Text", "a number has 1 to 4 digits", () -> {
            Edges.error(ONE, "curve:0,1,;", 10);
            Edges.done(ONE, "curve:0,1,1;", 1);
            Edges.done(ONE, "curve:0,1,1234;", 1);
            Edges.error(ONE, "curve:0,1,12345;", 14);
            Edges.error(ONE, "curve:,1,1;", 6);
            Edges.error(ONE, "curve:0,1,/;", 10);
            Edges.error(ONE, "curve:0,1,1:", 11);
        });
        Edges.test("Text", "and can have zeros at its beginning", () -> {
            Check.equal("price by 0009", Check.after("price:0009;").count(5), 9);
            Check.equal("price by 0000", Check.after("price:0000;").count(5), 0);
            Edges.done("", "price:0099;", 1);
            Edges.done("add:0001,0000,0000,0000;", "need:0000,0999;", 1);
            Edges.error("", "price:0100;", 6);
            Edges.error("", "price:00001;", 10);
            Edges.error("", "add:0000,0,0,0;", 4);
        });
        Edges.test("Text", "in range as soon as its digits, at most four, have been read", () -> {
            Edges.error("", "price:100", 6);
            Edges.error("", "price:100x", 6);
            Edges.error("", "price:1000", 6);
            Edges.error("", "price:10000;", 6);
            Edges.error("", "price:00990;", 10);
            Edges.error("", "price:00100;", 10);
            Edges.error(ONE, "need:1", 5);
            Edges.error(ONE, "curve:0,12", 8);
        });
    }

    /** Each sign of a command, as another one. */
    private static void signsOfACommand() {
        String text = "factor:1,20;";
        Edges.done("", text, 1);
        for (char sign : ":,;".toCharArray()) {
            for (int at : new int[] {6, 8, 11}) {
                if (text.charAt(at) != sign) {
                    Edges.error("", text.substring(0, at) + sign + text.substring(at + 1), at);
                }
            }
        }
        Edges.error("", "factor1,20;", 6);
        Edges.error("", "factor:120;", 7);
    }

    /** The signature of a command: too few of its numbers end at the semicolon, too many at the comma. */
    private static void signature(int command) {
        String text = WORDS[command] + ":" + NUMBERS[command];
        Edges.done(ONE, text + ";", 1);
        Edges.error(ONE, text + ",1;", text.length());
        int comma = text.lastIndexOf(',');
        int first = comma < 0 ? text.indexOf(':') + 1 : comma;
        Edges.error(ONE, text.substring(0, first) + ";", first);
    }

    private static void words() {
        Edges.test("Text", "These are the words and their numbers", () -> {
            for (int command = 0; command < WORDS.length; command++) {
                signature(command);
            }
        });
        Edges.test("Text", "r is a reservoir", () -> {
            Edges.range(FULL, "need:", ",7;", 0, 2, x -> Edges.where(3, r -> x.reservoir(r, 4), 7));
            Edges.range(FULL, "least:", ",7;", 0, 2, x -> Edges.where(3, r -> x.reservoir(r, 5), 7));
            Edges.range(FULL, "head:", ",0,7;", 0, 2, x -> Edges.where(3, r -> x.head(r, 0), 7));
            Edges.range(FULL, "curve:", ",0,0;", 0, 2, x -> Edges.where(3, r -> x.target(r, 0, 0), 0));
            Edges.range(FULL, "flow:0,", ",0,7;", 0, 2, x -> Edges.where(3, r -> x.inflow(0, r, 0), 7));
        });
        Edges.test("Text", "s a scenario from 0 to 3", () ->
                Edges.range(ONE, "flow:", ",0,0,4;", 0, 3, x -> Edges.where(4, s -> x.inflow(s, 0, 0), 4)));
        Edges.test("Text", "m a month of the year", () -> {
            Edges.range(ONE, "curve:0,", ",7;", 0, 11, x -> Edges.where(12, m -> x.target(0, m, 0), 7));
            Edges.range(ONE, "flow:3,0,", ",9;", 0, 11, x -> Edges.where(12, m -> x.inflow(3, 0, m), 9));
        });
        Edges.test("Text", "p a plan", () ->
                Edges.range("", "factor:", ",7;", 0, 3, x -> Edges.where(4, p -> x.count(10 + p), 7)));
        Edges.test("Text", "add: capacity, dead storage, turbine, storage", () -> {
            Cascade x = Check.after("add:90,20,300,40;");
            int[] dues = {90, 20, 300, 40};
            for (int what = 0; what < 4; what++) {
                Check.equal("number " + what, x.reservoir(0, what), dues[what]);
            }
            Edges.error("", "add:90,91,300,40;", 7);
            Edges.error("", "add:90,20,300,91;", 14);
        });
        Edges.test("Text", "a reservoir is added below the others, whose targets are its capacity", () -> {
            Cascade x = Check.after("add:50,0,9,9;curve:0,0,7;", "add:60,0,9,9;");
            Check.equal("the others stay above", x.reservoir(0, 0), 50);
            Check.equal("it is the lowest", x.reservoir(1, 0), 60);
            Check.equal("its target in month 0", x.target(1, 0, 0), 60);
            Check.equal("its target in month 11", x.target(1, 11, 0), 60);
            Check.equal("the target of the other", x.target(0, 0, 0), 7);
            x.byHand(0, 5, 0, 0);
            Check.equal("the other's release comes into it", x.latest(1, 1), 5);
        });
        wordsOfReservoirs();
        wordsOfAll();
    }

    private static void wordsOfReservoirs() {
        Edges.test("Text", "need: r, need", () -> {
            Edges.range(ONE + ONE, "need:1,", ";", 0, 999, x -> x.reservoir(1, 4));
            Check.equal("the other's need", Check.after(ONE + ONE + "need:1,7;").reservoir(0, 4), 0);
        });
        Edges.test("Text", "least: r, least release", () -> {
            Edges.range(ONE + ONE, "least:1,", ";", 0, 999, x -> x.reservoir(1, 5));
            Check.equal("the other's least release", Check.after(ONE + ONE + "least:1,7;").reservoir(0, 5), 0);
        });
        Edges.test("Text", "head: r, level, head", () -> {
            Cascade x = Check.after(ONE + ONE + "head:1,9,7;");
            Check.equal("head at the level", x.head(1, 9), 7);
            Check.equal("head below the level", x.head(1, 8), 0);
            Check.equal("the other's head", x.head(0, 9), 0);
        });
        Edges.test("Text", "an entry is added, or the head of the entry with this level replaced", () -> {
            Cascade x = Check.after(ONE, FIVE);
            for (int level : new int[] {1, 3, 5}) {
                Check.equal("replaced", Check.outcome(x, "head:0," + level + ",99;"), "1");
                Check.equal("the head at " + level, x.head(0, level), 99);
            }
            Check.equal("the head at 4", x.head(0, 4), 4);
            Check.equal("entries", x.reservoir(0, 6), 5);
            Check.equal("twice in one text", Check.outcome(x, "head:0,2,8;head:0,2,9;"), "2");
            Check.equal("the later one", x.head(0, 2), 9);
        });
        Edges.test("Text", "curve: r, m, target", () -> {
            Cascade x = Check.after(ONE + ONE + "curve:1,3,9;");
            Check.equal("target", x.target(1, 3, 0), 9);
            Check.equal("target of the next month", x.target(1, 4, 0), 100);
            Check.equal("target of the other", x.target(0, 3, 0), 100);
        });
        Edges.test("Text", "flow: s, r, m, inflow", () -> {
            Cascade x = Check.after(ONE + ONE + "flow:2,1,3,9;");
            Check.equal("inflow", x.inflow(2, 1, 3), 9);
            Check.equal("inflow of the next scenario", x.inflow(3, 1, 3), 0);
            Check.equal("inflow of the next month", x.inflow(2, 1, 4), 0);
            Check.equal("inflow of the other", x.inflow(2, 0, 3), 0);
        });
    }

    private static void wordsOfAll() {
        Edges.test("Text", "stage: the stage, 1 to 3, threshold, share", () -> {
            Edges.error("", "stage:0,1,1;", 6);
            Edges.error("", "stage:4,1,1;", 6);
            Cascade x = Check.after("stage:1,11,21;stage:3,13,23;");
            int[] whats = {21, 22, 23, 31, 32, 33};
            int[] dues = {11, 30, 13, 21, 60, 23};
            for (int i = 0; i < whats.length; i++) {
                Check.equal("count " + whats[i], x.count(whats[i]), dues[i]);
            }
        });
        Edges.test("Text", "factor: p, factor", () -> {
            Cascade x = Check.after("factor:3,0;factor:1,200;");
            int[] dues = {100, 200, 60, 0};
            for (int plan = 0; plan < 4; plan++) {
                Check.equal("factor of " + plan, x.count(10 + plan), dues[plan]);
            }
        });
        rate("price: price", "price", 5);
        rate("penalty: penalty", "penalty", 6);
        rate("waste: waste", "waste", 7);
    }

    private static void rate(String quote, String word, int what) {
        Edges.test("Text", quote, () -> {
            int[] dues = {1, 5, 0};
            dues[what - 5] = 77;
            Cascade x = Check.after(word + ":77;");
            for (int i = 0; i < 3; i++) {
                Check.equal("count " + (5 + i), x.count(5 + i), dues[i]);
            }
            Edges.error("", word + ":7,7;", word.length() + 2);
        });
    }

    private static void positions() {
        Edges.test("Text", "read from left to right, and the first error is reported at its position", () -> {
            Edges.error("", "price:100;waste:100;", 6);
            Edges.error("", "price:1;waste:100;adds:1;", 14);
            Edges.error("", "adds:1;price:100;", 0);
            Edges.error("", "add:5,6,1000,9;", 6);
            Edges.error("", "price:1,;price:100;", 7);
        });
        Edges.test("Text", "at the first letter of a word that is none of these", () -> {
            for (String word : WORDS) {
                Edges.error("", "waste:1;" + word + "x:1;", 8);
                Edges.error("", "waste:1;x" + word + ":1;", 8);
                Edges.error("", "waste:1;" + word.substring(1) + ":1;", 8);
                Edges.error("", "waste:1;" + word.substring(0, word.length() - 1) + ":1;", 8);
                for (int at = 0; at < word.length(); at++) {
                    Edges.error(ONE, word.substring(0, at) + "z" + word.substring(at + 1) + ":0,1,1;", 0);
                }
            }
            Edges.error("", "waste:1;zzz", 8);
        });
        Edges.test("Text", "at the first digit of a number that is out of range", () -> {
            Edges.error("", "waste:1;price:100;", 14);
            Edges.error("", "waste:1;price:0100;", 14);
            Edges.error("", "stage:1,101,1;", 8);
            Edges.error("", "stage:1,100,101;", 12);
        });
        Edges.test("Text", "which includes a reservoir that there is not", () -> {
            Edges.error("", "need:0,1;", 5);
            Edges.error(ONE, "least:1,1;", 6);
            Edges.error(ONE, "head:1,1,1;", 5);
            Edges.error(ONE, "curve:9999,1,1;", 6);
            Edges.error(ONE, "flow:0,1,1,1;", 7);
            Edges.error(FULL, "need:3,1;", 5);
        });
        Edges.test("Text", "where those added by the text before count", () -> {
            Edges.done("", ONE + "need:0,1;", 2);
            Edges.error("", "need:0,1;" + ONE, 5);
            Edges.error("", ONE + "need:1,1;" + ONE, ONE.length() + 5);
            Edges.done("", ONE + ONE + "need:1,1;", 3);
        });
        Edges.test("Text", "and the head of a sixth entry", () -> {
            Cascade x = Check.after(ONE, FIVE);
            Check.equal("its head", Check.outcome(x, "head:0,60,7;"), "error 10");
            Check.equal("its head, out of range", Check.outcome(x, "head:0,60,100;"), "error 10");
            Check.equal("no head", Check.outcome(x, "head:0,60,;"), "error 10");
            Check.equal("no head, but the end", Check.outcome(x, "head:0,60"), "error 9");
            Edges.error(ONE, FIVE + "head:0,6,7;", FIVE.length() + 9);
            Edges.done(ONE, FIVE + "head:0,5,7;", 6);
        });
        Edges.test("Text", "at the first letter of add if there are 3 reservoirs", () -> {
            Edges.error(FULL, "add:1,0,0,0;", 0);
            Edges.error(FULL, "add", 0);
            Edges.error(FULL, "add!", 0);
            Edges.error(FULL, "add:0", 0);
            Edges.error(FULL, "price:1;add:1,0,0,0;", 8);
            Edges.error("", FULL + "add:1,0,0,0;", FULL.length());
            Edges.done("add:1,0,0,0;add:1,0,0,0;", "add:1,0,0,0;", 1);
        });
        Edges.test("Text", "otherwise at a character that is not allowed", () -> {
            for (char sign : "!/A~.-x".toCharArray()) {
                Edges.error("", sign == 'x' ? "price:x;" : sign + "price:1;", sign == 'x' ? 6 : 0);
                Edges.error("", "price:" + sign + ";", 6);
                Edges.error("", "price:1" + sign + ";", 7);
                Edges.error("", "price:1;" + sign, 8);
            }
        });
        Edges.test("Text", "which includes a fifth digit", () -> {
            Edges.error(ONE, "curve:0,0,00000;", 14);
            Edges.error(ONE, "curve:00000,0,0;", 10);
            Edges.error(ONE, "curve:0,0,10000;", 14);
            Edges.error(ONE, "curve:0,0,99999", 14);
        });
        Edges.test("Text", "and a comma behind the last number", () -> {
            for (int command = 0; command < WORDS.length; command++) {
                String text = WORDS[command] + ":" + NUMBERS[command];
                Edges.error(ONE, text + ",", text.length());
                Edges.error(ONE, text + ",;", text.length());
            }
        });
        Edges.test("Text", "or at the length of the text if it ends too early", TextEdges::textsThatEndTooEarly);
        Edges.test("In doubt", "A text that ends within a word that is none of these is wrong at the first letter",
                TextEdges::textsThatEndWithinAWord);
        Edges.test("In doubt", "a comma or a ; that cannot stand is wrong at its own position", () -> {
            for (String sign : new String[] {",", ";"}) {
                Edges.error("", sign, 0);
                Edges.error("", "factor" + sign + "1,2;", 6);
                Edges.error("", "factor:" + sign + "1,2;", 7);
                Edges.error("", "factor:1," + sign + "2;", 9);
                Edges.error("", "factor:1,2;" + sign, 11);
            }
            Edges.error("", "factor:1;", 8);
            Edges.error("", "factor:1,2,", 10);
        });
    }

    /** Each beginning of each command, from its whole word on. */
    private static void textsThatEndTooEarly() {
        for (int command = 0; command < WORDS.length; command++) {
            String text = WORDS[command] + ":" + NUMBERS[command] + ";";
            for (int length = WORDS[command].length(); length < text.length(); length++) {
                Edges.error(ONE, text.substring(0, length), length);
                Edges.error(ONE, "price:1;" + text.substring(0, length), 8 + length);
            }
        }
        Edges.error("", "", 0);
    }

    private static void textsThatEndWithinAWord() {
        for (String word : WORDS) {
            for (int length = 1; length < word.length(); length++) {
                Edges.error("", word.substring(0, length), 0);
                Edges.error("", "price:1;" + word.substring(0, length), 8);
            }
        }
    }

    private static void newObject() {
        Edges.test("Promise 1", "Creates an operator without reservoirs, in month 0", () -> {
            Cascade x = new Cascade();
            Check.equal("reservoirs", x.count(0), 0);
            Check.equal("month", x.count(1), 0);
            Check.raises("reservoir 0", Check.INDEX, x, () -> x.reservoir(0, 0));
            Check.equal("calls to undo", x.count(3), 0);
            Check.equal("characters", x.count(4), 0);
            Cascade other = Check.after(ONE + "price:9;");
            other.operate(1, 0, 0);
            Check.equal("objects share nothing", Check.all(x), Check.all(new Cascade()));
        });
    }

    private static void append() {
        Edges.test("Promise 2", "Appends up to four characters", () -> {
            int[] packed = {0, 'a', 'a' << 8 | 'b', 'a' << 16 | 'b' << 8 | 'c', 0x61626364};
            for (int length = 0; length <= 4; length++) {
                Check.equal("append " + length, new Cascade().append(packed[length]), length);
            }
        });
        Edges.test("Promise 2", "from the most significant one to the least significant one", () -> {
            Cascade x = new Cascade();
            x.append('p' << 24 | 'r' << 16 | 'i' << 8 | 'c');
            x.append('e' << 24 | ':' << 16 | '1' << 8 | '2');
            x.append(';');
            Check.equal("execute", x.execute(), 1);
            Check.equal("the price", x.count(5), 12);
        });
        Edges.test("Promise 2", "where bytes that are 0 are skipped", () -> {
            Cascade x = new Cascade();
            int[] packed = {'w' << 24, 'a' << 16, 's' << 8, 't', 0, 'e' << 24 | ':', '5' << 16 | '6' << 8, ';' << 24};
            int[] lengths = {1, 2, 3, 4, 4, 6, 8, 9};
            for (int i = 0; i < packed.length; i++) {
                Check.equal("append " + i, x.append(packed[i]), lengths[i]);
            }
            Check.equal("execute", x.execute(), 1);
            Check.equal("the waste", x.count(7), 56);
        });
        Edges.test("Promise 2", "Returns the number of characters in the buffer", () -> {
            Cascade x = new Cascade();
            for (int i = 1; i <= 80; i++) {
                Check.equal("character " + i, x.append('p'), i);
            }
            Check.equal("nothing more", x.append(0), 80);
        });
        Edges.test("Promise 2", "- `packed`: the characters", () -> {
            Edges.answers("the least sign", () -> new Cascade().append(0x21212121));
            Edges.answers("the greatest sign", () -> new Cascade().append(0x7e7e7e7e));
        });
        Edges.test("Promise 2",
                "Throws `IllegalArgumentException` if a byte that is not 0 is not from 33 to 126", () -> {
            Cascade x = new Cascade();
            for (int shift = 0; shift < 32; shift += 8) {
                for (int sign : new int[] {1, 32, 127, 128, 255}) {
                    int packed = sign << shift;
                    Check.raises("byte " + sign + " at " + shift, Check.ARGUMENT, x, () -> x.append(packed));
                }
                int least = 33 << shift;
                int greatest = 126 << shift;
                Edges.answers("33 at " + shift, () -> x.append(least));
                Edges.answers("126 at " + shift, () -> x.append(greatest));
            }
            Check.raises("one of four", Check.ARGUMENT, x, () -> x.append(0x61622063));
            Check.raises("all bytes 255", Check.ARGUMENT, x, () -> x.append(-1));
            Check.raises("the least int", Check.ARGUMENT, x, () -> x.append(Integer.MIN_VALUE));
        });
        Edges.test("Promise 2", "Throws `IllegalStateException` if there would be more than 80 characters", () -> {
            Cascade x = new Cascade();
            Check.append(x, "p".repeat(77));
            Check.raises("four to 77", Check.STATE, x, () -> x.append(0x61626364));
            Check.equal("three to 77", x.append(0x00616263), 80);
            Check.raises("one to 80", Check.STATE, x, () -> x.append('a' << 24));
            Check.equal("none to 80", x.append(0), 80);
        });
    }

    private static void execute() {
        Edges.test("Promise 3", "Reads the text in the buffer and executes its commands in their order", () -> {
            Check.equal("the last one counts", Check.after("price:1;price:99;price:2;").count(5), 2);
            Cascade x = Check.after("add:5,0,0,1;add:6,0,0,2;need:1,3;need:1,4;");
            Check.equal("the first reservoir", x.reservoir(0, 0), 5);
            Check.equal("the second reservoir", x.reservoir(1, 0), 6);
            Check.equal("its need", x.reservoir(1, 4), 4);
        });
        Edges.test("Promise 3", "The buffer is empty afterwards, also if an exception is thrown", () -> {
            Cascade x = Check.after("price:1;");
            Check.equal("after a text", x.count(4), 0);
            Check.equal("an error", Check.outcome(x, "price:1;price:"), "error 14");
            Check.equal("after an error", x.count(4), 0);
            Check.equal("an empty text", Check.outcome(x, ""), "error 0");
            Check.equal("after an empty text", x.count(4), 0);
            Check.equal("the next text begins anew", Check.outcome(x, "price:2;"), "1");
            Check.equal("a longer word", Check.outcome(x, "prices:1;"), "error 0");
            Check.equal("its rest is forgotten", Check.outcome(x, "price"), "error 5");
            Check.equal("a longer number", Check.outcome(x, "price:123;"), "error 6");
            Check.equal("its rest is forgotten too", Check.outcome(x, "price:1"), "error 7");
            Check.equal("a text of 80", Check.outcome(x, "a".repeat(80)), "error 0");
        });
        Edges.test("Promise 3", "if there is an error in the text, no command is executed", () -> {
            Cascade x = Check.after(ONE);
            x.operate(1, 0, 0);
            String before = Check.everything(x);
            String good = "price:9;need:0,9;" + ONE + "head:1,9,9;head:0,9,9;curve:0,1,9;";
            Check.equal("an error at the end", Check.outcome(x, good + "!"), "error " + good.length());
            Check.equal("the state", Check.everything(x), before);
            Check.equal("calls to undo", x.count(3), 2);
            Check.equal("the latest month", x.latest(0, 0), 80);
        });
        Edges.test("Promise 3", "Returns the number of commands", () -> {
            Edges.done("", "price:1;", 1);
            Edges.done("", ONE + "need:0,1;head:0,1,1;", 3);
            Edges.done("", "waste:1;".repeat(10), 10);
        });
        Edges.test("Promise 3", "Throws `IllegalArgumentException` if there is an error in the text", () -> {
            for (String text : new String[] {"", "x", "price", "price:1", "price:100;", "price:1;;"}) {
                Cascade x = new Cascade();
                Check.append(x, text);
                String thrown = "nothing";
                try {
                    x.execute();
                } catch (RuntimeException e) {
                    thrown = e.getClass().getSimpleName();
                }
                Check.equal("thrown for " + text, thrown, "IllegalArgumentException");
            }
        });
    }

    private static void errorPosition() {
        Edges.test("Promise 4", "the error in the text that execute read most recently", () -> {
            Cascade x = new Cascade();
            Check.equal("first", Check.outcome(x, "price:x;"), "error 6");
            Check.equal("second", Check.outcome(x, "waste"), "error 5");
            Check.append(x, "price:!");
            Check.equal("not executed yet", x.errorPosition(), 5);
        });
        Edges.test("Promise 4", "or -1 if that text had no error or execute was not called", () -> {
            Cascade x = new Cascade();
            Check.equal("not called", x.errorPosition(), -1);
            Check.append(x, "!");
            Check.equal("not called yet", x.errorPosition(), -1);
            Check.equal("an error at the first place", Check.outcome(x, ""), "error 0");
            Check.equal("told", x.errorPosition(), 0);
            Check.execute(x, "price:1;");
            Check.equal("no error", x.errorPosition(), -1);
            String longest = "price:1;".repeat(9) + "price:11";
            Check.equal("the last place", Check.outcome(x, longest), "error 80");
        });
    }
}
