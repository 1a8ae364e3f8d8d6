import java.util.ArrayList;
import java.util.List;

/** What the tests share: they print every answer that is not due, and end with 1 if there was one. */
final class Check {
    interface Call {
        long run();
    }

    static final Class<? extends RuntimeException> INDEX = IndexOutOfBoundsException.class;
    static final Class<? extends RuntimeException> ARGUMENT = IllegalArgumentException.class;
    static final Class<? extends RuntimeException> STATE = IllegalStateException.class;

    private static int checks = 0;
    private static int wrong = 0;
    /** What stands ahead of each answer that is printed. */
    private static String part = "";

    private Check() {
    }

    static void equal(String what, Object got, Object due) {
        checks++;
        if (!String.valueOf(got).equals(String.valueOf(due))) {
            wrong++;
            System.out.println(part + what + ": answered " + got + ", due is " + due);
        }
    }

    static void within(String name) {
        part = name.isEmpty() ? "" : name + ": ";
    }

    static int checks() {
        return checks;
    }

    /** The call throws just this class, from the code of ReservoirCascade itself, and changes nothing. */
    static void raises(String what, Class<? extends RuntimeException> due, Cascade x, Call call) {
        String before = all(x);
        String got;
        try {
            got = "the answer " + call.run();
        } catch (RuntimeException e) {
            boolean own = e.getStackTrace()[0].getClassName().startsWith("ReservoirCascade");
            got = e.getClass() == due && own ? due.getName() : e + (own ? "" : " from outside");
        }
        equal(what, got, due.getName());
        equal(what + ": the state after it", all(x), before);
    }

    /** Appends a text without executing it. */
    static int append(Cascade x, String text) {
        int length = x.append(0);
        for (int i = 0; i < text.length(); i += 4) {
            int packed = 0;
            for (int k = i; k < i + 4; k++) {
                packed = packed << 8 | (k < text.length() ? text.charAt(k) : 0);
            }
            length = x.append(packed);
        }
        return length;
    }

    static int execute(Cascade x, String text) {
        append(x, text);
        return x.execute();
    }

    /** A new object after these texts. */
    static Cascade after(String... texts) {
        Cascade x = new Cascade();
        for (String text : texts) {
            execute(x, text);
        }
        return x;
    }

    /** What execute answers to a text: the number of commands, or the position of the error behind "error ". */
    static String outcome(Cascade x, String text) {
        append(x, text);
        try {
            int commands = x.execute();
            return x.errorPosition() == -1 ? String.valueOf(commands) : "done, but error " + x.errorPosition();
        } catch (IllegalArgumentException e) {
            return "error " + x.errorPosition();
        }
    }

    static String report(Cascade x, int reservoir) {
        return reportOf(x, x.report(reservoir));
    }

    static String reportOf(Cascade x, int length) {
        StringBuilder text = new StringBuilder();
        for (int i = 0; i < length; i++) {
            text.append(x.character(i));
        }
        return text.toString();
    }

    /** All that can be seen of the object without changing it, looked at on another one after the same calls. */
    static String all(Cascade object) {
        Cascade x = object.beside();
        return everything(x) + " error " + x.errorPosition() + " report " + latestReport(x)
                + " buffer " + x.count(4) + " undoable " + x.count(3);
    }

    /** All that undo, save and restore are about. */
    static String everything(Cascade object) {
        Cascade x = object.beside();
        List<Object> seen = new ArrayList<>();
        int[] counts = {0, 1, 2, 5, 6, 7, 10, 11, 12, 13, 21, 22, 23, 31, 32, 33};
        for (int what : counts) {
            seen.add(x.count(what));
        }
        seen.add(x.value());
        for (int r = 0; r < x.count(0); r++) {
            seen.add(" reservoir " + r);
            seeReservoir(x, r, seen);
        }
        return seen.toString();
    }

    private static void seeReservoir(Cascade x, int r, List<Object> seen) {
        for (int what = 0; what < 8; what++) {
            seen.add(x.reservoir(r, what));
        }
        int headBefore = -1;
        for (int storage = 0; storage <= 9999; storage++) {
            int head = x.head(r, storage);
            if (head != headBefore) {
                seen.add("head from " + storage + " " + head);
            }
            headBefore = head;
        }
        for (int month = 0; month < 12; month++) {
            seen.add(x.target(r, month, 0));
            for (int scenario = 0; scenario < 5; scenario++) {
                seen.add(x.inflow(scenario, r, month));
            }
        }
        for (int what = 0; what < 7; what++) {
            seen.add(x.account(r, what));
        }
        seen.add(x.difference(r));
        for (int what = 0; what < 8; what++) {
            seen.add(latestOrNone(x, r, what));
        }
    }

    private static String latestOrNone(Cascade x, int r, int what) {
        try {
            return String.valueOf(x.latest(r, what));
        } catch (IllegalStateException e) {
            return "none";
        }
    }

    private static String latestReport(Cascade x) {
        StringBuilder text = new StringBuilder();
        try {
            for (int i = 0; i < 100; i++) {
                text.append(x.character(i));
            }
        } catch (IndexOutOfBoundsException e) {
            return text.toString();
        }
        return text + "..";
    }

    static void finish(String test) {
        System.out.println(test + ": " + checks + " checks, " + wrong + " wrong");
        if (wrong != 0) {
            System.exit(1);
        }
    }
}
