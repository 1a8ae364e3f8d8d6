import java.util.ArrayList;
import java.util.List;
import java.util.Random;

/** Random runs of all calls of the document, each answer or exception beside that of the model. */
public final class ModelTest {
    private static final int RUNS = 1500;
    private static final String[] WORDS = {
        "add", "need", "least", "head", "curve", "flow", "stage", "factor", "price", "penalty", "waste"};

    private interface Call {
        long of();
    }

    private final Random random;
    private final Cascade x = new Cascade();
    private final Model model = new Model();
    private final List<String> calls = new ArrayList<>();
    private boolean differs;

    private ModelTest(long seed) {
        random = new Random(seed);
    }

    public static void main(String[] args) {
        int wrong = 0;
        int calls = 0;
        for (int seed = 0; seed < RUNS; seed++) {
            ModelTest test = new ModelTest(seed);
            test.run();
            calls += test.calls.size();
            if (test.differs && wrong++ < 3) {
                System.out.println("seed " + seed + ": " + String.join("\n  ", test.calls));
            }
        }
        System.out.println("ModelTest: " + RUNS + " runs, " + calls + " calls, " + wrong + " runs wrong");
        if (wrong != 0) {
            System.exit(1);
        }
    }

    private void run() {
        if (random.nextInt(8) > 0) {
            setUp();
        }
        int length = 40 + random.nextInt(120);
        for (int i = 0; i < length && !differs && calls.size() < Cascade.MOST_CALLS - 30; i++) {
            step();
        }
    }

    private void setUp() {
        int reservoirs = 1 + random.nextInt(3);
        for (int r = 0; r < reservoirs; r++) {
            int capacity = 1 + random.nextInt(random.nextBoolean() ? 300 : 9999);
            text("add:" + capacity + "," + random.nextInt(capacity / 3 + 1) + ","
                    + random.nextInt(random.nextInt(4) == 0 ? 3 : capacity / 2 + 1) % 1000 + ","
                    + random.nextInt(capacity + 1) + ";need:" + r + "," + random.nextInt(capacity / 4 + 1) % 1000
                    + ";head:" + r + "," + random.nextInt(capacity + 1) + "," + (1 + random.nextInt(99)) + ";");
        }
        for (int i = random.nextInt(8); i > 0; i--) {
            text(settings());
        }
    }

    /** Packs a text into appends, with gaps now and then, and executes it. */
    private void text(String text) {
        int at = 0;
        while (at < text.length()) {
            int packed = 0;
            for (int k = 0; k < 4; k++) {
                boolean gap = random.nextInt(20) == 0;
                packed = packed << 8 | (gap || at >= text.length() ? 0 : text.charAt(at++));
            }
            int part = packed;
            compare("append(" + part + ")", () -> x.append(part), () -> model.append(part));
        }
        compare("execute() " + text, x::execute, model::execute);
        compare("errorPosition()", x::errorPosition, model::errorPosition);
    }

    private String settings() {
        String text = "";
        for (int i = 1 + random.nextInt(5); i > 0; i--) {
            String command = command();
            text = text.length() + command.length() <= 80 ? text + command : text;
        }
        return random.nextInt(6) == 0 ? spoilt(text) : text;
    }

    private String command() {
        String word = WORDS[random.nextInt(WORDS.length)];
        if (word.equals("add") && random.nextInt(4) > 0) {
            word = "flow";
        }
        int[] ends = switch (word) {
            case "add" -> new int[] {300, 40, 80, 100};
            case "need", "least" -> new int[] {reservoirEnd(), 60};
            case "head" -> new int[] {reservoirEnd(), random.nextBoolean() ? 8 : 300, 100};
            case "curve" -> new int[] {reservoirEnd(), 12, 400};
            case "flow" -> new int[] {4, reservoirEnd(), 12, random.nextInt(3) == 0 ? 1000 : 90};
            case "stage" -> new int[] {4, 102, 102};
            case "factor" -> new int[] {4, 202};
            default -> new int[] {random.nextBoolean() ? 10 : 101};
        };
        StringBuilder text = new StringBuilder(word);
        for (int i = 0; i < ends.length; i++) {
            String zeros = random.nextInt(20) == 0 ? "00" : "";
            text.append(i == 0 ? ':' : ',').append(zeros).append(random.nextInt(ends[i]));
        }
        return text.append(';').toString();
    }

    private int reservoirEnd() {
        return Math.max(1, model.count(0) + (random.nextInt(15) == 0 ? 1 : 0));
    }

    private String spoilt(String text) {
        int at = random.nextInt(text.length() + 1);
        String sign = String.valueOf("abdeq019,:;A!~".charAt(random.nextInt(14)));
        String result = switch (random.nextInt(4)) {
            case 0 -> text.substring(0, at);
            case 1 -> text.substring(0, at) + text.substring(Math.min(text.length(), at + 1));
            case 2 -> text.substring(0, at) + sign + text.substring(Math.min(text.length(), at + 1));
            default -> text.substring(0, at) + sign + text.substring(at);
        };
        return result.length() > 80 ? result.substring(0, 80) : result;
    }

    /** A number from 0 to end - 1, but sometimes one beyond. */
    private int pick(int end) {
        int chance = random.nextInt(40);
        if (chance == 0) {
            return -1 - random.nextInt(2);
        }
        if (chance == 1) {
            return end + random.nextInt(2);
        }
        if (chance == 2) {
            return random.nextBoolean() ? Integer.MIN_VALUE : Integer.MAX_VALUE;
        }
        return random.nextInt(end);
    }

    private int reservoir() {
        return pick(Math.max(1, model.count(0)));
    }

    private int months() {
        return random.nextInt(30) == 0 ? pick(1) : 1 + pick(24);
    }

    private int wish() {
        return random.nextInt(3) == 0 ? pick(10000) : pick(120);
    }

    private void step() {
        int kind = random.nextInt(40);
        if (kind < 4) {
            text(settings());
        } else if (kind < 14) {
            change(kind);
        } else if (kind < 22) {
            lookAhead(kind);
        } else if (kind < 34) {
            ask(kind);
        } else {
            manage(kind);
        }
    }

    private void change(int kind) {
        int a = random.nextInt(3) == 0 ? months() : 1 + random.nextInt(3);
        int s = pick(5);
        if (kind < 9) {
            int p = pick(4);
            compare("operate(" + a + ", " + s + ", " + p + ")", () -> x.operate(a, s, p), () -> model.operate(a, s, p));
        } else {
            int b = wish();
            int c = wish();
            int d = wish();
            compare("byHand(" + s + ", " + b + ", " + c + ", " + d + ")", () -> x.byHand(s, b, c, d),
                    () -> model.byHand(s, b, c, d));
        }
    }

    private void lookAhead(int kind) {
        int m = months();
        int s = pick(5);
        int p = pick(4);
        int w = pick(6);
        int way = pick(3);
        switch (kind) {
            case 14, 15 -> compare("ahead(" + m + ", " + s + ", " + p + ", " + w + ")", () -> x.ahead(m, s, p, w),
                    () -> model.ahead(m, s, p, w));
            case 16 -> compare("regret(" + m + ", " + s + ", " + p + ")", () -> x.regret(m, s, p),
                    () -> model.regret(m, s, p));
            case 17 -> compare("choose(" + m + ", " + way + ")", () -> x.choose(m, way), () -> model.choose(m, way));
            case 18 -> compare("score(" + m + ", " + way + ", " + p + ")", () -> x.score(m, way, p),
                    () -> model.score(m, way, p));
            case 19 -> compare("reaches(" + p + ", " + s + ", " + way + ")", () -> x.reaches(p, s, way),
                    () -> model.reaches(p, s, way));
            default -> searched(s);
        }
    }

    private void searched(int s) {
        // Three months of three reservoirs are dear in the model.
        int m = model.count(0) == 3 && random.nextInt(12) > 0 ? 1 + pick(2) : 1 + pick(3);
        if (random.nextBoolean()) {
            compare("best(" + m + ", " + s + ")", () -> x.best(m, s), () -> model.best(m, s));
            return;
        }
        int t = pick(Math.max(1, Math.min(m, 3)));
        int r = reservoir();
        compare("option(" + m + ", " + s + ", " + t + ", " + r + ")", () -> x.option(m, s, t, r),
                () -> model.option(m, s, t, r));
    }

    private void ask(int kind) {
        int r = reservoir();
        int all = random.nextInt(3) == 0 ? -1 : r;
        int s = pick(5);
        int p = pick(4);
        int m = pick(12);
        int w = pick(8);
        int storage = random.nextBoolean() ? pick(10000) : pick(300);
        switch (kind) {
            case 22 -> compare("reservoir(" + r + ", " + w + ")", () -> x.reservoir(r, w), () -> model.reservoir(r, w));
            case 23 -> compare("head(" + r + ", " + storage + ")", () -> x.head(r, storage),
                    () -> model.head(r, storage));
            case 24 -> compare("target(" + r + ", " + m + ", " + p + ")", () -> x.target(r, m, p),
                    () -> model.target(r, m, p));
            case 25 -> compare("inflow(" + s + ", " + r + ", " + m + ")", () -> x.inflow(s, r, m),
                    () -> model.inflow(s, r, m));
            case 26, 27, 28 -> compare("latest(" + r + ", " + w + ")", () -> x.latest(r, w), () -> model.latest(r, w));
            case 29 -> compare("stage()", x::stage, model::stage);
            case 30 -> compare("account(" + all + ", " + w + ")", () -> x.account(all, w), () -> model.account(all, w));
            case 31 -> compare("difference(" + r + ")", () -> x.difference(r), () -> model.difference(r));
            case 32 -> compare("value()", x::value, model::value);
            default -> {
                int what = pick(36);
                compare("count(" + what + ")", () -> x.count(what), () -> model.count(what));
            }
        }
    }

    private void manage(int kind) {
        int packed = random.nextInt(3) == 0 ? random.nextInt() : 0x70000000 | pick(127);
        switch (kind) {
            case 34 -> reportAll();
            case 35, 36 -> compare("undo()", x::undo, model::undo);
            case 37 -> compare("save()", x::save, model::save);
            case 38 -> {
                if (random.nextInt(3) == 0) {
                    compare("restore()", x::restore, model::restore);
                }
            }
            default -> compare("append(" + packed + ")", () -> x.append(packed), () -> model.append(packed));
        }
    }

    private void reportAll() {
        int r = reservoir();
        compare("report(" + r + ")", () -> x.report(r), () -> model.report(r));
        for (int i = random.nextInt(26); i >= -1 && !differs; i -= 1 + random.nextInt(4)) {
            int at = i;
            compare("character(" + at + ")", () -> x.character(at), () -> model.character(at));
        }
    }

    private void compare(String name, Call ours, Call models) {
        if (differs) {
            return;
        }
        String got = outcome(ours, "ReservoirCascade");
        String due = outcome(models, "Model");
        calls.add(name + " -> " + got);
        if (!got.equals(due)) {
            differs = true;
            calls.add("DUE: " + due);
        }
    }

    /** The answer, or the class of an exception that the code itself throws. */
    private static String outcome(Call call, String owner) {
        try {
            return String.valueOf(call.of());
        } catch (RuntimeException e) {
            String from = e.getStackTrace()[0].getClassName();
            return e.getClass().getSimpleName() + (from.startsWith(owner) ? "" : " from " + from);
        }
    }
}
