import java.util.ArrayDeque;
import java.util.ArrayList;
import java.util.Arrays;
import java.util.Deque;
import java.util.HashMap;
import java.util.List;
import java.util.Map;
import java.util.NoSuchElementException;
import java.util.TreeMap;
import java.util.regex.Matcher;
import java.util.regex.Pattern;

/**
 * The document a second time, in another form: it keeps a journal of all months and counts every answer anew from it.
 * It shares no code with the program, so that a slip in one of them shows as a difference.
 */
final class Model {
    private static final Map<String, String> SHAPES = new HashMap<>();

    static {
        SHAPES.put("add", "capacity dead flow stored");
        SHAPES.put("need", "reservoir flow");
        SHAPES.put("least", "reservoir flow");
        SHAPES.put("head", "reservoir level head");
        SHAPES.put("curve", "reservoir month level");
        SHAPES.put("flow", "scenario reservoir month flow");
        SHAPES.put("stage", "stage percent percent");
        SHAPES.put("factor", "plan factor");
        SHAPES.put("price", "rate");
        SHAPES.put("penalty", "rate");
        SHAPES.put("waste", "rate");
    }

    private record Passage(int start, int came, int own, int supply, int shortage, int release, int spill, int energy,
            int reason, int end) {
        int[] told() {
            return new int[] {start, came, supply, shortage, release, spill, energy, reason};
        }

        int booked(int what) {
            return new int[] {own, supply, shortage, release, spill, energy}[what];
        }
    }

    /** A month of the journal: what happened to each reservoir, and the value by the prices of then. */
    private record Month(List<Passage> passages, long value) {
    }

    private static final class Reservoir {
        final int capacity;
        final int dead;
        final int turbine;
        final int added;
        int storage;
        int need;
        int least;
        final TreeMap<Integer, Integer> table = new TreeMap<>();
        final Map<Integer, Integer> curve = new HashMap<>();
        final Map<List<Integer>, Integer> inflows = new HashMap<>();

        Reservoir(int capacity, int dead, int turbine, int storage) {
            this.capacity = capacity;
            this.dead = dead;
            this.turbine = turbine;
            this.added = storage;
            this.storage = storage;
        }

        Reservoir copy() {
            Reservoir other = new Reservoir(capacity, dead, turbine, added);
            other.storage = storage;
            other.need = need;
            other.least = least;
            other.table.putAll(table);
            other.curve.putAll(curve);
            other.inflows.putAll(inflows);
            return other;
        }

        int head(int water) {
            Map.Entry<Integer, Integer> entry = table.floorEntry(water);
            return entry == null ? 0 : entry.getValue();
        }

        int inflow(int scenario, int month) {
            if (scenario == 4) {
                return (inflow(0, month) + inflow(1, month) + inflow(2, month) + inflow(3, month)) / 4;
            }
            return inflows.getOrDefault(List.of(scenario, month), 0);
        }
    }

    private static final class World {
        final List<Reservoir> reservoirs = new ArrayList<>();
        final List<Month> journal = new ArrayList<>();
        int journalAtExecute = 0;
        int[] thresholds = {0, 50, 30, 15};
        int[] shares = {100, 80, 60, 40};
        int[] factors = {100, 80, 60, 120};
        final Map<String, Integer> rates = new HashMap<>(Map.of("price", 1, "penalty", 5, "waste", 0));

        World copy() {
            World other = new World();
            for (Reservoir reservoir : reservoirs) {
                other.reservoirs.add(reservoir.copy());
            }
            other.journal.addAll(journal);
            other.journalAtExecute = journalAtExecute;
            other.thresholds = thresholds.clone();
            other.shares = shares.clone();
            other.factors = factors.clone();
            other.rates.putAll(rates);
            return other;
        }

        int filling() {
            int all = reservoirs.stream().mapToInt(r -> r.capacity).sum();
            return all == 0 ? 0 : 100 * reservoirs.stream().mapToInt(r -> r.storage).sum() / all;
        }

        int stage() {
            int stage = 0;
            for (int k = 1; k <= 3; k++) {
                stage = thresholds[k] > filling() ? k : stage;
            }
            return stage;
        }

        int target(Reservoir reservoir, int month, int plan) {
            int curve = reservoir.curve.getOrDefault(month, reservoir.capacity);
            return Math.min(reservoir.capacity, curve * factors[plan] / 100);
        }

        /** Operates a month by the wishes, or by the plan if they are null. */
        Month month(int scenario, int plan, int[] wishes) {
            int share = shares[stage()];
            int month = journal.size() % 12;
            List<Passage> passages = new ArrayList<>();
            int above = 0;
            long value = 0;
            for (int i = 0; i < reservoirs.size(); i++) {
                Reservoir r = reservoirs.get(i);
                Integer wish = wishes == null ? null : wishes[i];
                Passage p = pass(r, r.inflow(scenario, month), above, share, target(r, month, plan), wish);
                passages.add(p);
                r.storage = p.end;
                above = p.release + p.spill;
                value += (long) p.energy * rates.get("price") - (long) p.shortage * rates.get("penalty")
                        - (long) p.spill * rates.get("waste");
            }
            Month done = new Month(passages, value);
            journal.add(done);
            return done;
        }

        private static Passage pass(Reservoir r, int own, int above, int share, int target, Integer byHand) {
            int water = r.storage + own + above;
            int supply = r.need * share / 100;
            if (supply > water - r.dead) {
                supply = water > r.dead ? water - r.dead : 0;
            }
            int rest = water - supply;
            int free = rest > r.dead ? rest - r.dead : 0;
            int wish = byHand != null ? byHand : rest - target > r.least ? rest - target : r.least;
            int release = wish;
            release = release > r.turbine ? r.turbine : release;
            release = release > free ? free : release;
            int end = rest - release;
            int spill = end > r.capacity ? end - r.capacity : 0;
            int reason;
            if (free < wish && free < r.turbine) {
                reason = 3;
            } else if (r.turbine < wish) {
                reason = 2;
            } else if (byHand != null) {
                reason = 4;
            } else {
                reason = rest - target < r.least ? 1 : 0;
            }
            return new Passage(r.storage, own + above, own, supply, r.need - supply, release, spill,
                    release * r.head(r.storage), reason, end - spill);
        }

        long value() {
            return journal.stream().mapToLong(Month::value).sum();
        }

        /** Reservoirs are never taken away, so a month of the journal lacks just those that were added later. */
        int sum(int reservoir, int what) {
            if (what == 6) {
                return reservoirs.get(reservoir).added;
            }
            return journal.stream().filter(m -> m.passages.size() > reservoir)
                    .mapToInt(m -> m.passages.get(reservoir).booked(what)).sum();
        }

        int all(int what) {
            int sum = 0;
            for (int i = 0; i < reservoirs.size(); i++) {
                sum += sum(i, what);
            }
            return sum;
        }
    }

    private static final class Wrong extends Exception {
        private static final long serialVersionUID = 1L;
        final int position;

        Wrong(int position) {
            this.position = position;
        }
    }

    private World world = new World();
    private World snapshot = null;
    private final Deque<World> past = new ArrayDeque<>();
    private String buffer = "";
    private int error = -1;
    private String report = "";

    private static void index(boolean fine) {
        if (!fine) {
            throw new IndexOutOfBoundsException();
        }
    }

    private static void argument(boolean fine) {
        if (!fine) {
            throw new IllegalArgumentException();
        }
    }

    private static void state(boolean fine) {
        if (!fine) {
            throw new IllegalStateException();
        }
    }

    private boolean has(int reservoir) {
        return 0 <= reservoir && reservoir < world.reservoirs.size();
    }

    private static boolean in(int number, int least, int most) {
        return least <= number && number <= most;
    }

    private void replace(World next) {
        past.addLast(world);
        if (past.size() > 6) {
            past.removeFirst();
        }
        world = next;
    }

    int append(int packed) {
        String signs = "";
        for (int k = 3; k >= 0; k--) {
            int sign = (packed >> 8 * k) & 0xff;
            if (sign != 0) {
                argument(in(sign, 33, 126));
                signs += (char) sign;
            }
        }
        state(buffer.length() + signs.length() <= 80);
        buffer += signs;
        return buffer.length();
    }

    int execute() {
        String text = buffer;
        buffer = "";
        World next = world.copy();
        int commands = 0;
        int at = 0;
        error = -1;
        try {
            do {
                at = command(text, at, next);
                commands++;
            } while (at < text.length());
        } catch (Wrong wrong) {
            error = wrong.position;
            throw new IllegalArgumentException();
        }
        next.journalAtExecute = next.journal.size();
        replace(next);
        return commands;
    }

    private static int command(String text, int at, World next) throws Wrong {
        Matcher letters = Pattern.compile("[a-z]*").matcher(text).region(at, text.length());
        letters.lookingAt();
        String word = letters.group();
        if (!SHAPES.containsKey(word) || word.equals("add") && next.reservoirs.size() == 3) {
            throw new Wrong(at);
        }
        String[] kinds = SHAPES.get(word).split(" ");
        List<Integer> numbers = new ArrayList<>();
        int place = letters.end();
        for (int i = 0; i < kinds.length; i++) {
            place = expect(text, place, i == 0 ? ':' : ',');
            Matcher digits = Pattern.compile("[0-9]{1,4}").matcher(text).region(place, text.length());
            if (!digits.lookingAt()) {
                throw new Wrong(place);
            }
            numbers.add(Integer.parseInt(digits.group()));
            if (!fits(kinds[i], numbers, next)) {
                throw new Wrong(place);
            }
            place = digits.end();
        }
        place = expect(text, place, ';');
        perform(word, numbers, next);
        return place;
    }

    private static int expect(String text, int place, char sign) throws Wrong {
        if (!text.startsWith(String.valueOf(sign), place)) {
            throw new Wrong(place);
        }
        return place + 1;
    }

    private static boolean fits(String kind, List<Integer> numbers, World next) {
        int number = numbers.get(numbers.size() - 1);
        switch (kind) {
            case "capacity": return number >= 1;
            case "dead":
            case "stored": return number <= numbers.get(0);
            case "flow": return number <= 999;
            case "reservoir": return number < next.reservoirs.size();
            case "level": return true;
            case "head": {
                TreeMap<Integer, Integer> table = next.reservoirs.get(numbers.get(0)).table;
                return in(number, 1, 99) && (table.size() < 5 || table.containsKey(numbers.get(1)));
            }
            case "month": return number < 12;
            case "scenario":
            case "plan": return number < 4;
            case "stage": return in(number, 1, 3);
            case "percent": return number <= 100;
            case "factor": return number <= 200;
            default: return number <= 99;
        }
    }

    private static void perform(String word, List<Integer> n, World next) {
        switch (word) {
            case "add" -> next.reservoirs.add(new Reservoir(n.get(0), n.get(1), n.get(2), n.get(3)));
            case "need" -> next.reservoirs.get(n.get(0)).need = n.get(1);
            case "least" -> next.reservoirs.get(n.get(0)).least = n.get(1);
            case "head" -> next.reservoirs.get(n.get(0)).table.put(n.get(1), n.get(2));
            case "curve" -> next.reservoirs.get(n.get(0)).curve.put(n.get(1), n.get(2));
            case "flow" -> next.reservoirs.get(n.get(1)).inflows.put(List.of(n.get(0), n.get(2)), n.get(3));
            case "stage" -> {
                next.thresholds[n.get(0)] = n.get(1);
                next.shares[n.get(0)] = n.get(2);
            }
            case "factor" -> next.factors[n.get(0)] = n.get(1);
            default -> next.rates.put(word, n.get(0));
        }
    }

    int errorPosition() {
        return error;
    }

    int reservoir(int reservoir, int what) {
        index(has(reservoir));
        argument(in(what, 0, 7));
        Reservoir r = world.reservoirs.get(reservoir);
        return new int[] {r.capacity, r.dead, r.turbine, r.storage, r.need, r.least, r.table.size(),
            r.head(r.storage)}[what];
    }

    int head(int reservoir, int storage) {
        index(has(reservoir));
        argument(in(storage, 0, 9999));
        return world.reservoirs.get(reservoir).head(storage);
    }

    int target(int reservoir, int month, int plan) {
        index(has(reservoir) && in(month, 0, 11) && in(plan, 0, 3));
        return world.target(world.reservoirs.get(reservoir), month, plan);
    }

    int inflow(int scenario, int reservoir, int month) {
        index(in(scenario, 0, 4) && has(reservoir) && in(month, 0, 11));
        return world.reservoirs.get(reservoir).inflow(scenario, month);
    }

    int operate(int months, int scenario, int plan) {
        index(in(scenario, 0, 4) && in(plan, 0, 3));
        argument(in(months, 1, 24));
        state(has(0) && world.journal.size() + months <= 999);
        World next = world.copy();
        for (int i = 0; i < months; i++) {
            next.month(scenario, plan, null);
        }
        replace(next);
        return world.journal.size();
    }

    int byHand(int scenario, int first, int second, int third) {
        index(in(scenario, 0, 4));
        int[] wishes = {first, second, third};
        argument(Arrays.stream(wishes).allMatch(w -> in(w, 0, 9999)));
        state(has(0) && world.journal.size() < 999);
        World next = world.copy();
        Month month = next.month(scenario, 0, wishes);
        replace(next);
        return month.passages.stream().mapToInt(Passage::energy).sum();
    }

    int latest(int reservoir, int what) {
        index(has(reservoir));
        argument(in(what, 0, 7));
        state(operated());
        return latestPassage(reservoir).told()[what];
    }

    private boolean operated() {
        return world.journal.size() > world.journalAtExecute;
    }

    private Passage latestPassage(int reservoir) {
        return world.journal.get(world.journal.size() - 1).passages.get(reservoir);
    }

    int stage() {
        return world.stage();
    }

    int reaches(int stage, int scenario, int plan) {
        index(in(scenario, 0, 4) && in(plan, 0, 3));
        argument(in(stage, 0, 3));
        World trial = world.copy();
        for (int months = 0; months < 37; months++) {
            if (trial.stage() >= stage) {
                return months;
            }
            trial.month(scenario, plan, null);
        }
        throw new NoSuchElementException();
    }

    int account(int reservoir, int what) {
        index(reservoir == -1 || has(reservoir));
        argument(in(what, 0, 6));
        return reservoir == -1 ? world.all(what) : world.sum(reservoir, what);
    }

    int difference(int reservoir) {
        index(has(reservoir));
        return 0;
    }

    long value() {
        return world.value();
    }

    long ahead(int months, int scenario, int plan, int what) {
        index(in(scenario, 0, 4) && in(plan, 0, 3));
        argument(in(months, 1, 24) && in(what, 0, 5));
        World trial = world.copy();
        int staged = 0;
        for (int i = 0; i < months; i++) {
            staged += trial.stage() == 0 ? 0 : 1;
            trial.month(scenario, plan, null);
        }
        return switch (what) {
            case 0 -> trial.value() - world.value();
            case 1 -> trial.all(5) - world.all(5);
            case 2 -> trial.all(2) - world.all(2);
            case 3 -> trial.all(4) - world.all(4);
            case 4 -> trial.reservoirs.stream().mapToInt(r -> r.storage).sum();
            default -> staged;
        };
    }

    long regret(int months, int scenario, int plan) {
        index(in(scenario, 0, 4) && in(plan, 0, 3));
        argument(in(months, 1, 24));
        long greatest = Long.MIN_VALUE;
        for (int other = 0; other < 4; other++) {
            greatest = Math.max(greatest, ahead(months, scenario, other, 0));
        }
        return greatest - ahead(months, scenario, plan, 0);
    }

    int choose(int months, int way) {
        argument(in(months, 1, 24) && in(way, 0, 2));
        List<Long> scores = new ArrayList<>();
        for (int plan = 0; plan < 4; plan++) {
            scores.add(way == 0 ? -score(months, way, plan) : score(months, way, plan));
        }
        return scores.indexOf(scores.stream().max(Long::compare).get());
    }

    long score(int months, int way, int plan) {
        index(in(plan, 0, 3));
        argument(in(months, 1, 24) && in(way, 0, 2));
        List<Long> numbers = new ArrayList<>();
        for (int scenario = 0; scenario < 4; scenario++) {
            numbers.add(way == 0 ? regret(months, scenario, plan) : ahead(months, scenario, plan, 0));
        }
        return switch (way) {
            case 0 -> numbers.stream().max(Long::compare).get();
            case 1 -> numbers.stream().min(Long::compare).get();
            default -> numbers.stream().mapToLong(n -> n).sum();
        };
    }

    long best(int months, int scenario) {
        index(in(scenario, 0, 4));
        argument(in(months, 1, 3));
        state(has(0));
        long[] value = new long[1];
        search(months, scenario, value);
        return value[0];
    }

    int option(int months, int scenario, int month, int reservoir) {
        index(in(scenario, 0, 4) && has(reservoir) && month >= 0 && month < months);
        argument(in(months, 1, 3));
        return search(months, scenario, new long[1])[month * world.reservoirs.size() + reservoir];
    }

    /** Counts through all sequences of options, the last one fastest, and operates each of them from now on. */
    private int[] search(int months, int scenario, long[] value) {
        int size = world.reservoirs.size();
        int[] storages = world.reservoirs.stream().mapToInt(r -> r.storage).toArray();
        World trial = world.copy();
        int before = trial.journal.size();
        int[] best = null;
        int[] options = new int[months * size];
        while (true) {
            for (int i = 0; i < size; i++) {
                trial.reservoirs.get(i).storage = storages[i];
            }
            trial.journal.subList(before, trial.journal.size()).clear();
            long sum = 0;
            for (int month = 0; month < months; month++) {
                int[] wishes = new int[size];
                for (int i = 0; i < size; i++) {
                    int turbine = trial.reservoirs.get(i).turbine;
                    wishes[i] = new int[] {0, turbine / 2, turbine}[options[month * size + i]];
                }
                sum += trial.month(scenario, 0, wishes).value;
            }
            if (best == null || sum > value[0]) {
                best = options.clone();
                value[0] = sum;
            }
            int place = options.length - 1;
            while (place >= 0 && options[place] == 2) {
                options[place--] = 0;
            }
            if (place < 0) {
                return best;
            }
            options[place]++;
        }
    }

    int report(int reservoir) {
        index(has(reservoir));
        Reservoir r = world.reservoirs.get(reservoir);
        String word = r.storage <= r.dead ? "dead" : r.storage == r.capacity ? "full"
                : r.storage < world.target(r, world.journal.size() % 12, 0) ? "low" : "good";
        report = reservoir + ":" + r.storage + "/" + r.capacity + " " + word;
        if (operated()) {
            report += " " + List.of("curve", "least", "turbine", "dead", "hand").get(latestPassage(reservoir).reason);
        }
        return report.length();
    }

    char character(int at) {
        index(in(at, 0, report.length() - 1));
        return report.charAt(at);
    }

    int undo() {
        state(!past.isEmpty());
        world = past.removeLast();
        return past.size();
    }

    int save() {
        snapshot = world.copy();
        return world.journal.size();
    }

    int restore() {
        state(snapshot != null);
        world = snapshot.copy();
        past.clear();
        return world.journal.size();
    }

    int count(int what) {
        if (in(what, 10, 13)) {
            return world.factors[what - 10];
        }
        if (in(what, 21, 23)) {
            return world.thresholds[what - 20];
        }
        if (in(what, 31, 33)) {
            return world.shares[what - 30];
        }
        argument(in(what, 0, 7));
        return new int[] {world.reservoirs.size(), world.journal.size(), world.filling(), past.size(), buffer.length(),
            world.rates.get("price"), world.rates.get("penalty"), world.rates.get("waste")}[what];
    }
}
