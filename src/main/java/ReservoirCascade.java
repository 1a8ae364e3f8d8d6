import java.util.NoSuchElementException;

/** An operator of a cascade of at most three reservoirs, which is set up by short texts. */
public final class ReservoirCascade {
    private static final int MOST_RESERVOIRS = 3;
    private static final int MOST_ENTRIES = 5;
    private static final int MOST_STORAGE = 9999;
    private static final int MOST_FLOW = 999;
    private static final int MOST_HEAD = 99;
    private static final int MOST_RATE = 99;
    private static final int MOST_FACTOR = 200;
    private static final int YEAR = 12;
    private static final int LAST_MONTH = 999;

    private static final int GIVEN_SCENARIOS = 4;
    private static final int SCENARIOS = 5;
    private static final int PLANS = 4;
    private static final int STAGES = 4;
    /** Stands where a plan is asked for, when the wishes are given by hand. */
    private static final int BY_HAND = -1;
    /** Stands where a wish is asked for, when a plan decides. */
    private static final int BY_PLAN = -1;

    private static final int MOST_OPERATED = 24;
    private static final int MOST_REACHED = 36;
    private static final int MOST_SEARCHED = 3;
    private static final int OPTIONS = 3;
    private static final int MOST_UNDONE = 6;

    /** The numbers of a month, in the order in which latest tells them. */
    private static final int START = 0;
    private static final int CAME = 1;
    private static final int SUPPLY = 2;
    private static final int SHORTAGE = 3;
    private static final int RELEASE = 4;
    private static final int SPILL = 5;
    private static final int ENERGY = 6;
    private static final int REASON = 7;
    private static final int MONTH_NUMBERS = 8;

    /** The sums over months, in the order in which account tells them. */
    private static final int INFLOWS = 0;
    private static final int SUPPLIES = 1;
    private static final int SHORTAGES = 2;
    private static final int RELEASES = 3;
    private static final int SPILLS = 4;
    private static final int ENERGIES = 5;
    private static final int ADDED = 6;
    private static final int SUMS = 7;

    private static final int REASON_CURVE = 0;
    private static final int REASON_LEAST = 1;
    private static final int REASON_TURBINE = 2;
    private static final int REASON_DEAD = 3;
    private static final int REASON_HAND = 4;

    private static final int MOST_CHARACTERS = 80;
    private static final int MOST_DIGITS = 4;
    private static final int MOST_NUMBERS = 4;
    private static final int NO_COMMAND = -1;
    private static final int ADD = 0;
    private static final int NEED = 1;
    private static final int LEAST = 2;
    private static final int HEAD = 3;
    private static final int CURVE = 4;
    private static final int FLOW = 5;
    private static final int STAGE = 6;
    private static final int FACTOR = 7;
    private static final int PRICE = 8;
    private static final int PENALTY = 9;
    private static final int WASTE = 10;
    private static final int COMMANDS = 11;
    /** How many numbers each command has. */
    private static final int[] NUMBERS = {4, 2, 2, 3, 3, 4, 3, 2, 1, 1, 1};

    private static final int BY_REGRET = 0;
    private static final int BY_LEAST_VALUE = 1;
    private static final int WAYS = 3;

    private final State now = new State();
    /** What texts and looks ahead may change freely: it counts only when it is taken over. */
    private final State trial = new State();
    private final State snapshot = new State();
    private boolean saved;
    /** The states before the calls that can be undone, the oldest first. */
    private final State[] past = new State[MOST_UNDONE];
    private int undoable;
    private final Parser parser = new Parser();
    private final Search search = new Search();
    private final StringBuilder latestReport = new StringBuilder();
    private final int[] wishes = new int[MOST_RESERVOIRS];
    /** Values of looks ahead, by scenarios and plans. */
    private final long[][] outcomes = new long[GIVEN_SCENARIOS][PLANS];
    private final long[] planValues = new long[PLANS];

    public ReservoirCascade() {
        for (int i = 0; i < MOST_UNDONE; i++) {
            past[i] = new State();
        }
    }

    public int append(int packed) throws IllegalArgumentException, IllegalStateException {
        int added = 0;
        for (int shift = 24; shift >= 0; shift -= 8) {
            int sign = byteAt(packed, shift);
            if (sign != 0) {
                requireRange(sign, 33, 126, "a character is not from 33 to 126");
                added++;
            }
        }
        if (parser.length + added > MOST_CHARACTERS) {
            throw new IllegalStateException("more than 80 characters");
        }
        for (int shift = 24; shift >= 0; shift -= 8) {
            int sign = byteAt(packed, shift);
            if (sign != 0) {
                parser.accept((char) sign);
            }
        }
        return parser.length;
    }

    public int execute() throws IllegalArgumentException {
        trial.takeFrom(now);
        int commands = parser.readText(trial);
        if (parser.error >= 0) {
            throw new IllegalArgumentException("there is an error in the text");
        }
        remember();
        now.takeFrom(trial);
        now.operated = false;
        return commands;
    }

    public int errorPosition() {
        return parser.error;
    }

    public int reservoir(int reservoir, int what) throws IndexOutOfBoundsException, IllegalArgumentException {
        requireReservoir(reservoir);
        Basin basin = now.basins[reservoir];
        switch (what) {
            case 0: return basin.capacity;
            case 1: return basin.dead;
            case 2: return basin.turbine;
            case 3: return basin.storage;
            case 4: return basin.need;
            case 5: return basin.least;
            case 6: return basin.entries;
            case 7: return basin.headAt(basin.storage);
            default: throw new IllegalArgumentException("no such number of a reservoir");
        }
    }

    public int head(int reservoir, int storage) throws IndexOutOfBoundsException, IllegalArgumentException {
        requireReservoir(reservoir);
        requireRange(storage, 0, MOST_STORAGE, "the storage is out of range");
        return now.basins[reservoir].headAt(storage);
    }

    public int target(int reservoir, int month, int plan) throws IndexOutOfBoundsException {
        requireReservoir(reservoir);
        requireIndex(month, YEAR, "no such month of the year");
        requireIndex(plan, PLANS, "no such plan");
        return now.basins[reservoir].targetIn(month, now.factors[plan]);
    }

    public int inflow(int scenario, int reservoir, int month) throws IndexOutOfBoundsException {
        requireIndex(scenario, SCENARIOS, "no such scenario");
        requireReservoir(reservoir);
        requireIndex(month, YEAR, "no such month of the year");
        return now.basins[reservoir].inflowIn(month, scenario);
    }

    public int operate(int months, int scenario, int plan)
            throws IndexOutOfBoundsException, IllegalArgumentException, IllegalStateException {
        requireScenarioAndPlan(scenario, plan);
        requireRange(months, 1, MOST_OPERATED, "the number of months is out of range");
        requireOperable(months);
        remember();
        for (int i = 0; i < months; i++) {
            now.runMonth(scenario, plan, wishes);
        }
        return now.month;
    }

    public int byHand(int scenario, int first, int second, int third)
            throws IndexOutOfBoundsException, IllegalArgumentException, IllegalStateException {
        requireIndex(scenario, SCENARIOS, "no such scenario");
        requireRange(first, 0, MOST_STORAGE, "the first wish is out of range");
        requireRange(second, 0, MOST_STORAGE, "the second wish is out of range");
        requireRange(third, 0, MOST_STORAGE, "the third wish is out of range");
        requireOperable(1);
        remember();
        wishes[0] = first;
        wishes[1] = second;
        wishes[2] = third;
        int before = now.sumOf(ENERGIES);
        now.runMonth(scenario, BY_HAND, wishes);
        return now.sumOf(ENERGIES) - before;
    }

    public int latest(int reservoir, int what)
            throws IndexOutOfBoundsException, IllegalArgumentException, IllegalStateException {
        requireReservoir(reservoir);
        requireRange(what, 0, MONTH_NUMBERS - 1, "no such number of a month");
        if (!now.operated) {
            throw new IllegalStateException("no month was operated since the latest execute");
        }
        return now.basins[reservoir].latest[what];
    }

    public int stage() {
        return now.presentStage();
    }

    public int reaches(int stage, int scenario, int plan)
            throws IndexOutOfBoundsException, IllegalArgumentException, NoSuchElementException {
        requireScenarioAndPlan(scenario, plan);
        requireRange(stage, 0, STAGES - 1, "no such stage");
        trial.takeFrom(now);
        for (int months = 0; months <= MOST_REACHED; months++) {
            if (trial.presentStage() >= stage) {
                return months;
            }
            trial.runMonth(scenario, plan, wishes);
        }
        throw new NoSuchElementException("the stage is not reached");
    }

    public int account(int reservoir, int what) throws IndexOutOfBoundsException, IllegalArgumentException {
        boolean all = reservoir == -1;
        if (!all) {
            requireReservoir(reservoir);
        }
        requireRange(what, 0, SUMS - 1, "no such sum");
        return all ? now.sumOf(what) : now.basins[reservoir].sums[what];
    }

    public int difference(int reservoir) throws IndexOutOfBoundsException {
        requireReservoir(reservoir);
        return now.basins[reservoir].unaccounted();
    }

    public long value() {
        return now.value;
    }

    public long ahead(int months, int scenario, int plan, int what)
            throws IndexOutOfBoundsException, IllegalArgumentException {
        requireScenarioAndPlan(scenario, plan);
        requireRange(months, 1, MOST_OPERATED, "the number of months is out of range");
        requireRange(what, 0, 5, "no such number of a look ahead");
        int dryMonths = lookAhead(months, scenario, plan);
        switch (what) {
            case 0: return trial.value - now.value;
            case 1: return trial.sumOf(ENERGIES) - now.sumOf(ENERGIES);
            case 2: return trial.sumOf(SHORTAGES) - now.sumOf(SHORTAGES);
            case 3: return trial.sumOf(SPILLS) - now.sumOf(SPILLS);
            case 4: return trial.allStorage();
            default: return dryMonths;
        }
    }

    public long regret(int months, int scenario, int plan)
            throws IndexOutOfBoundsException, IllegalArgumentException {
        requireScenarioAndPlan(scenario, plan);
        requireRange(months, 1, MOST_OPERATED, "the number of months is out of range");
        valuePlans(months, scenario, planValues);
        return regretIn(planValues, plan);
    }

    public int choose(int months, int way) throws IllegalArgumentException {
        requireRange(months, 1, MOST_OPERATED, "the number of months is out of range");
        requireRange(way, 0, WAYS - 1, "no such way");
        valueAllScenarios(months);
        int chosen = 0;
        long chosenScore = scoreOf(way, 0);
        for (int plan = 1; plan < PLANS; plan++) {
            long planScore = scoreOf(way, plan);
            boolean better = way == BY_REGRET ? planScore < chosenScore : planScore > chosenScore;
            if (better) {
                chosen = plan;
                chosenScore = planScore;
            }
        }
        return chosen;
    }

    public long score(int months, int way, int plan) throws IndexOutOfBoundsException, IllegalArgumentException {
        requireIndex(plan, PLANS, "no such plan");
        requireRange(months, 1, MOST_OPERATED, "the number of months is out of range");
        requireRange(way, 0, WAYS - 1, "no such way");
        valueAllScenarios(months);
        return scoreOf(way, plan);
    }

    public long best(int months, int scenario)
            throws IndexOutOfBoundsException, IllegalArgumentException, IllegalStateException {
        requireIndex(scenario, SCENARIOS, "no such scenario");
        requireRange(months, 1, MOST_SEARCHED, "the number of months is out of range");
        requireReservoirs();
        search.run(now, months, scenario);
        return search.bestValue;
    }

    public int option(int months, int scenario, int month, int reservoir)
            throws IndexOutOfBoundsException, IllegalArgumentException {
        requireIndex(scenario, SCENARIOS, "no such scenario");
        requireReservoir(reservoir);
        requireIndex(month, months, "the month is not one of these months");
        requireRange(months, 1, MOST_SEARCHED, "the number of months is out of range");
        search.run(now, months, scenario);
        return search.bestOption(month, reservoir);
    }

    public int report(int reservoir) throws IndexOutOfBoundsException {
        requireReservoir(reservoir);
        Basin basin = now.basins[reservoir];
        latestReport.setLength(0);
        latestReport.append(reservoir).append(':');
        latestReport.append(basin.storage).append('/').append(basin.capacity);
        int target = basin.targetIn(now.month % YEAR, now.factors[0]);
        latestReport.append(' ').append(basin.condition(target));
        if (now.operated) {
            latestReport.append(' ').append(reasonWord(basin.latest[REASON]));
        }
        return latestReport.length();
    }

    public char character(int index) throws IndexOutOfBoundsException {
        requireIndex(index, latestReport.length(), "no such character");
        return latestReport.charAt(index);
    }

    public int undo() throws IllegalStateException {
        if (undoable <= 0) {
            throw new IllegalStateException("nothing can be undone");
        }
        undoable--;
        now.takeFrom(past[undoable]);
        return undoable;
    }

    public int save() {
        snapshot.takeFrom(now);
        saved = true;
        return now.month;
    }

    public int restore() throws IllegalStateException {
        if (!saved) {
            throw new IllegalStateException("there is no snapshot");
        }
        now.takeFrom(snapshot);
        undoable = 0;
        return now.month;
    }

    public int count(int what) throws IllegalArgumentException {
        if (within(what, 10, 10 + PLANS - 1)) {
            return now.factors[what - 10];
        }
        if (within(what, 21, 20 + STAGES - 1)) {
            return now.thresholds[what - 20];
        }
        if (within(what, 31, 30 + STAGES - 1)) {
            return now.shares[what - 30];
        }
        switch (what) {
            case 0: return now.size;
            case 1: return now.month;
            case 2: return now.filling();
            case 3: return undoable;
            case 4: return parser.length;
            case 5: return now.price;
            case 6: return now.penalty;
            case 7: return now.waste;
            default: throw new IllegalArgumentException("no such count");
        }
    }

    private static int byteAt(int packed, int shift) {
        return (packed >>> shift) & 255;
    }

    private static boolean within(int number, int least, int most) {
        return number >= least && number <= most;
    }

    private static void requireIndex(int index, int end, String message) {
        if (index < 0 || index >= end) {
            throw new IndexOutOfBoundsException(message);
        }
    }

    private static void requireRange(int number, int least, int most, String message) {
        if (!within(number, least, most)) {
            throw new IllegalArgumentException(message);
        }
    }

    private static void requireScenarioAndPlan(int scenario, int plan) {
        requireIndex(scenario, SCENARIOS, "no such scenario");
        requireIndex(plan, PLANS, "no such plan");
    }

    private void requireReservoir(int reservoir) {
        requireIndex(reservoir, now.size, "no such reservoir");
    }

    private void requireReservoirs() {
        if (now.size == 0) {
            throw new IllegalStateException("there are no reservoirs");
        }
    }

    private void requireOperable(int months) {
        requireReservoirs();
        if (now.month + months > LAST_MONTH) {
            throw new IllegalStateException("the month would be greater than 999");
        }
    }

    /** Keeps the present state for undo; the rows of the oldest one are used again when all are full. */
    private void remember() {
        if (undoable == MOST_UNDONE) {
            State oldest = past[0];
            for (int i = 1; i < MOST_UNDONE; i++) {
                past[i - 1] = past[i];
            }
            past[MOST_UNDONE - 1] = oldest;
            undoable--;
        }
        past[undoable].takeFrom(now);
        undoable++;
    }

    /** Leaves the state after these months in trial; returns the number of months with a stage greater than 0. */
    private int lookAhead(int months, int scenario, int plan) {
        trial.takeFrom(now);
        int dryMonths = 0;
        for (int i = 0; i < months; i++) {
            if (trial.presentStage() > 0) {
                dryMonths++;
            }
            trial.runMonth(scenario, plan, wishes);
        }
        return dryMonths;
    }

    private void valuePlans(int months, int scenario, long[] values) {
        for (int plan = 0; plan < values.length; plan++) {
            lookAhead(months, scenario, plan);
            values[plan] = trial.value - now.value;
        }
    }

    private void valueAllScenarios(int months) {
        for (int scenario = 0; scenario < GIVEN_SCENARIOS; scenario++) {
            valuePlans(months, scenario, outcomes[scenario]);
        }
    }

    private static long regretIn(long[] values, int plan) {
        long greatest = values[plan];
        for (int other = 0; other < values.length; other++) {
            greatest = Math.max(greatest, values[other]);
        }
        return greatest - values[plan];
    }

    private long scoreOf(int way, int plan) {
        long greatestRegret = 0;
        long leastValue = outcomes[0][plan];
        long sum = 0;
        for (int scenario = 0; scenario < GIVEN_SCENARIOS; scenario++) {
            long[] values = outcomes[scenario];
            greatestRegret = Math.max(greatestRegret, regretIn(values, plan));
            leastValue = Math.min(leastValue, values[plan]);
            sum += values[plan];
        }
        if (way == BY_REGRET) {
            return greatestRegret;
        }
        return way == BY_LEAST_VALUE ? leastValue : sum;
    }

    private static String reasonWord(int reason) {
        switch (reason) {
            case REASON_CURVE: return "curve";
            case REASON_LEAST: return "least";
            case REASON_TURBINE: return "turbine";
            case REASON_DEAD: return "dead";
            default: return "hand";
        }
    }

    /** A reservoir: its settings, its storage, its latest month and its sums. */
    private static final class Basin {
        int capacity;
        int dead;
        int turbine;
        int storage;
        int need;
        int least;
        int entries;
        /** All that came into it, from above too, which no sum of account tells. */
        int cameSum;
        final int[] levels = new int[MOST_ENTRIES];
        final int[] heads = new int[MOST_ENTRIES];
        final int[] curve = new int[YEAR];
        final int[][] inflows = new int[GIVEN_SCENARIOS][YEAR];
        final int[] latest = new int[MONTH_NUMBERS];
        final int[] sums = new int[SUMS];

        /** The row is as new, since undo and restore bring back the rows behind the last reservoir too. */
        void begin(int[] numbers) {
            capacity = numbers[0];
            dead = numbers[1];
            turbine = numbers[2];
            storage = numbers[3];
            sums[ADDED] = storage;
            for (int month = 0; month < YEAR; month++) {
                curve[month] = capacity;
            }
        }

        void takeFrom(Basin other) {
            capacity = other.capacity;
            dead = other.dead;
            turbine = other.turbine;
            storage = other.storage;
            need = other.need;
            least = other.least;
            entries = other.entries;
            cameSum = other.cameSum;
            System.arraycopy(other.levels, 0, levels, 0, MOST_ENTRIES);
            System.arraycopy(other.heads, 0, heads, 0, MOST_ENTRIES);
            System.arraycopy(other.curve, 0, curve, 0, YEAR);
            for (int scenario = 0; scenario < GIVEN_SCENARIOS; scenario++) {
                System.arraycopy(other.inflows[scenario], 0, inflows[scenario], 0, YEAR);
            }
            System.arraycopy(other.latest, 0, latest, 0, MONTH_NUMBERS);
            System.arraycopy(other.sums, 0, sums, 0, SUMS);
        }

        /** The place of the entry with this level, or the first free place, or -1 if the table is full. */
        int entryFor(int level) {
            for (int i = 0; i < entries; i++) {
                if (levels[i] == level) {
                    return i;
                }
            }
            return entries < MOST_ENTRIES ? entries : -1;
        }

        void putHead(int level, int headThere) {
            int place = entryFor(level);
            if (place < 0) {
                return;
            }
            levels[place] = level;
            heads[place] = headThere;
            entries = Math.max(entries, place + 1);
        }

        int headAt(int water) {
            int greatest = -1;
            int found = 0;
            for (int i = 0; i < entries; i++) {
                if (levels[i] <= water && levels[i] > greatest) {
                    greatest = levels[i];
                    found = heads[i];
                }
            }
            return found;
        }

        int targetIn(int month, int factor) {
            return Math.min(curve[month] * factor / 100, capacity);
        }

        int inflowIn(int month, int scenario) {
            if (scenario < GIVEN_SCENARIOS) {
                return inflows[scenario][month];
            }
            int sum = 0;
            for (int given = 0; given < GIVEN_SCENARIOS; given++) {
                sum += inflows[given][month];
            }
            return sum / GIVEN_SCENARIOS;
        }

        /** A month: changes the storage and the latest month, but books no sums. */
        void pass(int incoming, int share, int target, int wish) {
            int water = storage + incoming;
            int supply = Math.min(need * share / 100, Math.max(0, water - dead));
            int rest = water - supply;
            int usable = Math.max(0, rest - dead);
            int wanted = wish == BY_PLAN ? Math.max(least, rest - target) : wish;
            int release = Math.min(wanted, Math.min(turbine, usable));
            int spill = Math.max(0, rest - release - capacity);
            latest[START] = storage;
            latest[CAME] = incoming;
            latest[SUPPLY] = supply;
            latest[SHORTAGE] = need - supply;
            latest[RELEASE] = release;
            latest[SPILL] = spill;
            latest[ENERGY] = release * headAt(storage);
            if (usable < wanted && usable < turbine) {
                latest[REASON] = REASON_DEAD;
            } else if (turbine < wanted) {
                latest[REASON] = REASON_TURBINE;
            } else if (wish != BY_PLAN) {
                latest[REASON] = REASON_HAND;
            } else {
                latest[REASON] = rest - target >= least ? REASON_CURVE : REASON_LEAST;
            }
            storage = rest - release - spill;
        }

        void book(int ownInflow) {
            sums[INFLOWS] += ownInflow;
            sums[SUPPLIES] += latest[SUPPLY];
            sums[SHORTAGES] += latest[SHORTAGE];
            sums[RELEASES] += latest[RELEASE];
            sums[SPILLS] += latest[SPILL];
            sums[ENERGIES] += latest[ENERGY];
            cameSum += latest[CAME];
        }

        int left() {
            return latest[RELEASE] + latest[SPILL];
        }

        int unaccounted() {
            return sums[ADDED] + cameSum - sums[SUPPLIES] - sums[RELEASES] - sums[SPILLS] - storage;
        }

        String condition(int target) {
            if (storage <= dead) {
                return "dead";
            }
            if (storage == capacity) {
                return "full";
            }
            return storage < target ? "low" : "good";
        }
    }

    /** All that undo and restore bring back. */
    private static final class State {
        final Basin[] basins = new Basin[MOST_RESERVOIRS];
        int size;
        int month;
        /** Whether a month was operated since the latest successful execute. */
        boolean operated;
        long value;
        int price = 1;
        int penalty = 5;
        int waste;
        /** Stage 0 stands here too, so that a stage is an index; its threshold is never greater than a filling. */
        final int[] thresholds = {0, 50, 30, 15};
        final int[] shares = {100, 80, 60, 40};
        final int[] factors = {100, 80, 60, 120};

        State() {
            for (int i = 0; i < MOST_RESERVOIRS; i++) {
                basins[i] = new Basin();
            }
        }

        void takeFrom(State other) {
            for (int i = 0; i < MOST_RESERVOIRS; i++) {
                basins[i].takeFrom(other.basins[i]);
            }
            size = other.size;
            month = other.month;
            operated = other.operated;
            value = other.value;
            price = other.price;
            penalty = other.penalty;
            waste = other.waste;
            System.arraycopy(other.thresholds, 0, thresholds, 0, STAGES);
            System.arraycopy(other.shares, 0, shares, 0, STAGES);
            System.arraycopy(other.factors, 0, factors, 0, PLANS);
        }

        int allStorage() {
            int sum = 0;
            for (int i = 0; i < size; i++) {
                sum += basins[i].storage;
            }
            return sum;
        }

        int filling() {
            int stored = 0;
            int capacities = 0;
            for (int i = 0; i < size; i++) {
                stored += basins[i].storage;
                capacities += basins[i].capacity;
            }
            return capacities == 0 ? 0 : 100 * stored / capacities;
        }

        int presentStage() {
            int filled = filling();
            for (int step = STAGES - 1; step > 0; step--) {
                if (thresholds[step] > filled) {
                    return step;
                }
            }
            return 0;
        }

        int sumOf(int what) {
            int sum = 0;
            for (int i = 0; i < size; i++) {
                sum += basins[i].sums[what];
            }
            return sum;
        }

        long worthOf(Basin basin) {
            return (long) basin.latest[ENERGY] * price
                    - (long) basin.latest[SHORTAGE] * penalty
                    - (long) basin.latest[SPILL] * waste;
        }

        /** The wishes count only if plan is BY_HAND. */
        void runMonth(int scenario, int plan, int[] wishes) {
            int share = shares[presentStage()];
            int monthOfYear = month % YEAR;
            int fromAbove = 0;
            for (int i = 0; i < size; i++) {
                Basin basin = basins[i];
                int ownInflow = basin.inflowIn(monthOfYear, scenario);
                if (plan == BY_HAND) {
                    basin.pass(ownInflow + fromAbove, share, 0, wishes[i]);
                } else {
                    basin.pass(ownInflow + fromAbove, share, basin.targetIn(monthOfYear, factors[plan]), BY_PLAN);
                }
                basin.book(ownInflow);
                value += worthOf(basin);
                fromAbove = basin.left();
            }
            month++;
            operated = true;
        }

        /** The numbers are in range. */
        void perform(int command, int[] numbers) {
            switch (command) {
                case ADD: addBasin(numbers); break;
                case NEED: basins[numbers[0]].need = numbers[1]; break;
                case LEAST: basins[numbers[0]].least = numbers[1]; break;
                case HEAD: basins[numbers[0]].putHead(numbers[1], numbers[2]); break;
                case CURVE: basins[numbers[0]].curve[numbers[1]] = numbers[2]; break;
                case FLOW: basins[numbers[1]].inflows[numbers[0]][numbers[2]] = numbers[3]; break;
                case STAGE: setStage(numbers[0], numbers[1], numbers[2]); break;
                case FACTOR: factors[numbers[0]] = numbers[1]; break;
                case PRICE: price = numbers[0]; break;
                case PENALTY: penalty = numbers[0]; break;
                case WASTE: waste = numbers[0]; break;
                default: break;
            }
        }

        private void addBasin(int[] numbers) {
            if (size < MOST_RESERVOIRS) {
                basins[size].begin(numbers);
                size++;
            }
        }

        private void setStage(int step, int threshold, int share) {
            thresholds[step] = threshold;
            shares[step] = share;
        }
    }

    /** The buffer, and the reading of its text. */
    private static final class Parser {
        final char[] text = new char[MOST_CHARACTERS];
        int length;
        /** The position of the error in the text that was read most recently. */
        int error = -1;
        private int at;
        private final int[] numbers = new int[MOST_NUMBERS];

        void accept(char sign) {
            if (length < MOST_CHARACTERS) {
                text[length] = sign;
                length++;
            }
        }

        /**
         * Performs the commands on the draft, up to an error, and empties the buffer.
         * Returns their number. An empty text is tried as a command too, and so ends too early.
         */
        int readText(State draft) {
            at = 0;
            error = -1;
            int commands = 0;
            while (commands < MOST_CHARACTERS && error < 0 && (commands == 0 || at < length)) {
                readCommand(draft);
                commands++;
            }
            length = 0;
            return commands;
        }

        private void readCommand(State draft) {
            int start = at;
            int command = readWord();
            if (command == NO_COMMAND || command == ADD && draft.size == MOST_RESERVOIRS) {
                error = start;
                return;
            }
            readSign(':');
            int last = NUMBERS[command] - 1;
            for (int place = 0; place <= last && error < 0; place++) {
                readNumber(draft, command, place);
                if (error < 0) {
                    readSign(place < last ? ',' : ';');
                }
            }
            if (error < 0) {
                draft.perform(command, numbers);
            }
        }

        private void readSign(char sign) {
            if (at < length && text[at] == sign) {
                at++;
            } else {
                error = at;
            }
        }

        private int readWord() {
            int start = at;
            while (at < length && text[at] >= 'a' && text[at] <= 'z') {
                at++;
            }
            for (int command = 0; command < COMMANDS; command++) {
                if (isWord(wordOf(command), start)) {
                    return command;
                }
            }
            return NO_COMMAND;
        }

        /** Whether the letters from start to here are this word. */
        private boolean isWord(String word, int start) {
            if (word.length() != at - start) {
                return false;
            }
            for (int i = 0; i < word.length(); i++) {
                if (word.charAt(i) != text[start + i]) {
                    return false;
                }
            }
            return true;
        }

        private void readNumber(State draft, int command, int place) {
            int start = at;
            int number = 0;
            while (at < length && at < start + MOST_DIGITS && text[at] >= '0' && text[at] <= '9') {
                number = number * 10 + (text[at] - '0');
                at++;
            }
            if (at == start || !within(number, leastOf(command, place), mostOf(draft, command, place))) {
                error = start;
            }
            numbers[place] = number;
        }

        private static String wordOf(int command) {
            switch (command) {
                case ADD: return "add";
                case NEED: return "need";
                case LEAST: return "least";
                case HEAD: return "head";
                case CURVE: return "curve";
                case FLOW: return "flow";
                case STAGE: return "stage";
                case FACTOR: return "factor";
                case PRICE: return "price";
                case PENALTY: return "penalty";
                default: return "waste";
            }
        }

        private static int leastOf(int command, int place) {
            boolean fromOne = command == ADD && place == 0
                    || command == HEAD && place == 2
                    || command == STAGE && place == 0;
            return fromOne ? 1 : 0;
        }

        /** The greatest number that may stand here, behind those that were read before; -1 if none may. */
        private int mostOf(State draft, int command, int place) {
            int lastReservoir = draft.size - 1;
            switch (command) {
                case ADD: return place == 0 ? MOST_STORAGE : place == 2 ? MOST_FLOW : numbers[0];
                case NEED:
                case LEAST: return place == 0 ? lastReservoir : MOST_FLOW;
                case HEAD: return place == 0 ? lastReservoir : place == 1 ? MOST_STORAGE : mostHead(draft);
                case CURVE: return place == 0 ? lastReservoir : place == 1 ? YEAR - 1 : MOST_STORAGE;
                case FLOW: return place == 0 ? GIVEN_SCENARIOS - 1 : place == 1 ? lastReservoir
                        : place == 2 ? YEAR - 1 : MOST_FLOW;
                case STAGE: return place == 0 ? STAGES - 1 : 100;
                case FACTOR: return place == 0 ? PLANS - 1 : MOST_FACTOR;
                default: return MOST_RATE;
            }
        }

        private int mostHead(State draft) {
            return draft.basins[numbers[0]].entryFor(numbers[1]) < 0 ? -1 : MOST_HEAD;
        }
    }

    /** The search for the best releases, month by month and in each month reservoir by reservoir. */
    private static final class Search {
        private static final int MOST_STEPS = MOST_SEARCHED * MOST_RESERVOIRS;

        long bestValue;
        private boolean found;
        private final State state = new State();
        private int steps;
        private int scenario;
        /** The storages at the beginning of each month, on the way that is looked at. */
        private final int[][] storages = new int[MOST_SEARCHED + 1][MOST_RESERVOIRS];
        private final int[] options = new int[MOST_STEPS];
        private final int[] bestOptions = new int[MOST_STEPS];

        void run(State from, int months, int ofScenario) {
            state.takeFrom(from);
            steps = Math.min(months * state.size, MOST_STEPS);
            scenario = ofScenario;
            found = false;
            for (int i = 0; i < state.size; i++) {
                storages[0][i] = state.basins[i].storage;
            }
            tryOptions(this, 0, 0, 0, 0L);
        }

        int bestOption(int month, int ofReservoir) {
            int place = month * state.size + ofReservoir;
            return place < MOST_STEPS ? bestOptions[place] : 0;
        }

        /** The options are tried in their order, so that of equal values the lexicographically least stays. */
        private static void tryOptions(Search search, int depth, int shareBefore, int fromAbove, long valueBefore) {
            State state = search.state;
            if (depth >= search.steps || state.size == 0) {
                search.keepIfBetter(valueBefore);
                return;
            }
            int month = depth / state.size;
            int place = depth % state.size;
            int share = place == 0 ? search.shareIn(month) : shareBefore;
            Basin basin = state.basins[place];
            int incoming = basin.inflowIn((state.month + month) % YEAR, search.scenario) + fromAbove;
            int releaseBefore = -1;
            for (int choice = 0; choice < OPTIONS; choice++) {
                basin.storage = search.storages[month][place];
                basin.pass(incoming, share, 0, basin.turbine * choice / 2);
                // A higher option with the same release leads to the same months and can't be better.
                if (basin.latest[RELEASE] != releaseBefore) {
                    releaseBefore = basin.latest[RELEASE];
                    search.storages[month + 1][place] = basin.storage;
                    search.options[depth] = choice;
                    int onward = place == state.size - 1 ? 0 : basin.left();
                    tryOptions(search, depth + 1, share, onward, valueBefore + state.worthOf(basin));
                }
            }
        }

        /** The share of this month; the basins still hold the storages of another way, so they are set first. */
        private int shareIn(int month) {
            for (int i = 0; i < state.size; i++) {
                state.basins[i].storage = storages[month][i];
            }
            return state.shares[state.presentStage()];
        }

        private void keepIfBetter(long reached) {
            if (!found || reached > bestValue) {
                found = true;
                bestValue = reached;
                for (int i = 0; i < steps; i++) {
                    bestOptions[i] = options[i];
                }
            }
        }
    }
}
