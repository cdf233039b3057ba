import java.util.NoSuchElementException;

/** A simulation of garden chairs that migrate between lawns. */
public final class ChairMigration {
    public static final int PATH_EXISTS = 1;
    public static final int NO_PATH = 2;
    public static final int CHAIR_LIMIT = 3;
    public static final int LAWN_FULL = 4;
    public static final int FOLDED = 5;
    public static final int NOT_FOLDED = 6;
    public static final int NO_HERD = 7;
    public static final int NO_RUST = 8;
    public static final int NO_OIL = 9;
    public static final int OIL_LIMIT = 10;
    public static final int COMMAND_REJECTED = 11;

    private static final int LAWNS = 6;
    private static final int PLACES_OF_A_LAWN = 5;
    private static final int MOST_CHAIRS = 12;
    private static final int MOST_SHADE = 20;
    private static final int FIRST_SHADE = 5;
    private static final int MOST_RUST = 9;
    private static final int RUST_OILED_AWAY = 3;
    private static final int MOST_OIL = 20;
    private static final int FIRST_OIL = 3;
    private static final int MOST_OIL_AT_ONCE = 10;
    private static final int MOST_DAYS_AT_ONCE = 20;
    private static final int DAYS_OF_FORECAST = 100;
    private static final int SEASONS = 4;
    private static final int DAYS_OF_A_SEASON = 5;
    private static final int WINTER = 3;
    private static final int LONGEST_INPUT = 60;
    private static final int MOST_UNDOS = 8;
    private static final int LOWEST_CODE = 32;
    private static final int HIGHEST_CODE = 126;
    /** Stands for "there is none" where a lawn, a chair, a distance or an offset is due. */
    private static final int NONE = -1;

    private final Garden garden = new Garden();
    private final Garden forecast = new Garden();
    private final Garden beforeCommands = new Garden();
    private final Garden snapshot = new Garden();
    private final History history = new History();
    private final Improvement improvement = new Improvement();
    private final Judge judge = new Judge();
    private final CommandInput input = new CommandInput();
    private final StringBuilder output = new StringBuilder();
    private boolean snapshotSaved;
    private int syntaxOffset = NONE;
    private int latestReason;
    private int latestDetail;
    private int latestCause;

    public ChairMigration() {
    }

    // ---- lawns and paths

    public int addPath(int first, int second)
            throws IndexOutOfBoundsException, IllegalArgumentException, UnsupportedOperationException {
        return change(Deed.ADD_PATH, first, second);
    }

    public int removePath(int first, int second)
            throws IndexOutOfBoundsException, IllegalArgumentException, UnsupportedOperationException {
        return change(Deed.REMOVE_PATH, first, second);
    }

    public boolean isPath(int first, int second) throws IndexOutOfBoundsException {
        demandLawn(first);
        demandLawn(second);
        return garden.paths.areNeighbours(first, second);
    }

    public int distance(int first, int second) throws IndexOutOfBoundsException, NoSuchElementException {
        demandLawn(first);
        demandLawn(second);
        return demandElement(garden.paths.stepsBetween(first, second));
    }

    public int distanceByImprovement(int first, int second)
            throws IndexOutOfBoundsException, NoSuchElementException {
        demandLawn(first);
        demandLawn(second);
        improvement.measure(garden.paths);
        return demandElement(improvement.between(first, second));
    }

    public int routeAt(int first, int second, int position)
            throws IndexOutOfBoundsException, NoSuchElementException {
        demandLawn(first);
        demandLawn(second);
        int steps = garden.paths.stepsBetween(first, second);
        if (position < 0 || position > steps) {
            throw new NoSuchElementException("no such position on a route");
        }
        int lawn = first;
        for (int step = 0; step < position; step++) {
            lawn = garden.paths.nextTowards(lawn, second);
        }
        return lawn;
    }

    public int reachableLawns(int lawn) throws IndexOutOfBoundsException {
        demandLawn(lawn);
        return garden.paths.countReached(lawn);
    }

    public int pathCount() {
        return garden.paths.count;
    }

    public int setShade(int lawn, int shade) throws IndexOutOfBoundsException, IllegalArgumentException {
        return change(Deed.SET_SHADE, lawn, shade);
    }

    public int shadeOf(int lawn) throws IndexOutOfBoundsException {
        demandLawn(lawn);
        return garden.shades.at(lawn);
    }

    // ---- chairs

    public int addChair(int lawn, int rust)
            throws IndexOutOfBoundsException, IllegalArgumentException, UnsupportedOperationException {
        return change(Deed.ADD_CHAIR, lawn, rust);
    }

    public int scrapChair(int chair) throws IndexOutOfBoundsException {
        return change(Deed.SCRAP, chair, 0);
    }

    public int fold(int chair) throws IndexOutOfBoundsException, UnsupportedOperationException {
        return change(Deed.FOLD, chair, 0);
    }

    public int unfold(int chair) throws IndexOutOfBoundsException, UnsupportedOperationException {
        return change(Deed.UNFOLD, chair, 0);
    }

    public int moveChair(int chair, int lawn) throws IndexOutOfBoundsException, UnsupportedOperationException {
        return change(Deed.MOVE, chair, lawn);
    }

    public int migrate(int from, int to) throws IndexOutOfBoundsException, UnsupportedOperationException {
        return change(Deed.MIGRATE, from, to);
    }

    public int oilChair(int chair) throws IndexOutOfBoundsException, UnsupportedOperationException {
        return change(Deed.OIL, chair, 0);
    }

    public int addOil(int units) throws IllegalArgumentException, UnsupportedOperationException {
        return change(Deed.ADD_OIL, units, 0);
    }

    public boolean exists(int chair) {
        return garden.find(chair) != null;
    }

    public int lawnOf(int chair) throws IndexOutOfBoundsException {
        return demandChair(chair).lawn;
    }

    public int rustOf(int chair) throws IndexOutOfBoundsException {
        return demandChair(chair).rust;
    }

    public boolean isFolded(int chair) throws IndexOutOfBoundsException {
        return demandChair(chair).folded;
    }

    public int ageOf(int chair) throws IndexOutOfBoundsException {
        return garden.day - demandChair(chair).dayAdded;
    }

    public int positionOf(int chair) throws IndexOutOfBoundsException {
        return garden.placeInHerd(demandChair(chair));
    }

    // ---- herds

    public int herdSize(int lawn) throws IndexOutOfBoundsException {
        demandLawn(lawn);
        return garden.herdSizes.at(lawn);
    }

    public int herdSizeByChairs(int lawn) throws IndexOutOfBoundsException {
        demandLawn(lawn);
        return garden.countChairsOn(lawn);
    }

    public int chairAt(int lawn, int position) throws IndexOutOfBoundsException, NoSuchElementException {
        demandLawn(lawn);
        return demandElement(garden.idInHerd(lawn, position));
    }

    public int elderOf(int lawn) throws IndexOutOfBoundsException, NoSuchElementException {
        demandLawn(lawn);
        return demandElement(garden.idOfElder(lawn));
    }

    public int hungryChairs(int lawn) throws IndexOutOfBoundsException {
        demandLawn(lawn);
        return Math.max(0, garden.countGrazingOn(lawn) - garden.shades.at(lawn));
    }

    public int bestNeighbour(int lawn) throws IndexOutOfBoundsException, NoSuchElementException {
        demandLawn(lawn);
        return demandElement(garden.shadiestNeighbour(lawn));
    }

    // ---- days and seasons

    public int passDays(int days) throws IllegalArgumentException {
        return change(Deed.PASS_DAYS, days, 0);
    }

    public int day() {
        return garden.day;
    }

    public int season() {
        return garden.comingSeason();
    }

    public int daysUntil(int season) throws IllegalArgumentException {
        if (season < 0 || season >= SEASONS) {
            throw new IllegalArgumentException("no such season");
        }
        int seasonsAhead = (season - garden.comingSeason() + SEASONS) % SEASONS;
        return seasonsAhead == 0 ? 0 : seasonsAhead * DAYS_OF_A_SEASON - garden.day % DAYS_OF_A_SEASON;
    }

    public int wouldCollapse(int days) throws IllegalArgumentException {
        if (!areDays(days)) {
            throw new IllegalArgumentException("days out of range");
        }
        forecast.become(garden);
        return forecast.pass(days);
    }

    public int collapseDay(int chair) throws IndexOutOfBoundsException, NoSuchElementException {
        demandChair(chair);
        forecast.become(garden);
        for (int coming = 1; coming <= DAYS_OF_FORECAST; coming++) {
            forecast.passOneDay();
            if (forecast.find(chair) == null) {
                return coming;
            }
        }
        throw new NoSuchElementException("no collapse within the days of the forecast");
    }

    // ---- totals and orders

    public int chairCount() {
        return garden.chairCount;
    }

    public int foldedCount() {
        return garden.countFolded();
    }

    public int oil() {
        return garden.oil;
    }

    public int totalRust() {
        return garden.sumOfRust();
    }

    public int totalRustByHerds() {
        return garden.sumOfRustByHerds();
    }

    public int collapsedChairs() {
        return garden.collapsed;
    }

    public int scrappedChairs() {
        return garden.scrapped;
    }

    public int moveCount() {
        return garden.moves;
    }

    public int grazedShade() {
        return garden.grazed;
    }

    public int chairByRust(int position) throws NoSuchElementException {
        return demandElement(garden.idAtRank(position));
    }

    public int lawnByShade(int position) throws NoSuchElementException {
        return demandElement(garden.lawnAtRank(position));
    }

    public double meanRust() throws ArithmeticException {
        demandChairs();
        return (double) garden.sumOfRust() / (double) garden.chairCount;
    }

    public float foldedShare() throws ArithmeticException {
        demandChairs();
        return (float) garden.countFolded() / (float) garden.chairCount;
    }

    public boolean isConsistent() {
        improvement.measure(garden.paths);
        return improvement.agreesWith(garden.paths)
                && garden.herdSizesAgree()
                && garden.sumOfRust() == garden.sumOfRustByHerds()
                && garden.everyChairIsInOneHerd();
    }

    // ---- text output

    public int writeLawn(int lawn) throws IndexOutOfBoundsException {
        demandLawn(lawn);
        output.setLength(0);
        garden.describe(lawn, output);
        return output.length();
    }

    public char outputAt(int index) throws IndexOutOfBoundsException {
        if (index < 0 || index >= output.length()) {
            throw new IndexOutOfBoundsException("no character at this index");
        }
        return output.charAt(index);
    }

    // ---- commands

    public int appendInput(char character) throws IllegalArgumentException, IllegalStateException {
        if (character < LOWEST_CODE || character > HIGHEST_CODE) {
            throw new IllegalArgumentException("code out of range");
        }
        if (input.isFull()) {
            throw new IllegalStateException("the input is full");
        }
        return input.take(character);
    }

    public int execute() throws IllegalArgumentException, IllegalStateException, UnsupportedOperationException {
        int offset = input.readCommands();
        input.empty();
        if (offset != NONE) {
            syntaxOffset = offset;
            throw new IllegalArgumentException("syntax error");
        }
        beforeCommands.become(garden);
        int commandsDone = performCommands();
        if (commandsDone < input.count) {
            garden.become(beforeCommands);
            throwForCommand(commandsDone);
        }
        history.keep(beforeCommands);
        return commandsDone;
    }

    public int syntaxErrorOffset() throws NoSuchElementException {
        return demandElement(syntaxOffset);
    }

    // ---- rejections and history

    public int rejectionReason() throws NoSuchElementException {
        demandRejection();
        return latestReason;
    }

    public int rejectionDetail() throws NoSuchElementException {
        demandRejection();
        return latestDetail;
    }

    public int causeReason() throws NoSuchElementException {
        if (latestReason != COMMAND_REJECTED) {
            throw new NoSuchElementException("no command was rejected lately");
        }
        return latestCause;
    }

    public int undo() throws IllegalStateException {
        if (history.count == 0) {
            throw new IllegalStateException("no change to undo");
        }
        history.takeBack(garden);
        return history.count;
    }

    public int saveSnapshot() {
        snapshot.become(garden);
        snapshotSaved = true;
        return garden.chairCount;
    }

    public int restoreSnapshot() throws IllegalStateException {
        if (!snapshotSaved) {
            throw new IllegalStateException("no snapshot");
        }
        garden.become(snapshot);
        history.forget();
        return garden.chairCount;
    }

    // ---- what the calls share

    private static boolean isLawn(int lawn) {
        return lawn >= 0 && lawn < LAWNS;
    }

    private static boolean areDays(int days) {
        return days >= 1 && days <= MOST_DAYS_AT_ONCE;
    }

    private static void demandLawn(int lawn) {
        if (!isLawn(lawn)) {
            throw new IndexOutOfBoundsException("no such lawn");
        }
    }

    private Chair demandChair(int id) {
        Chair chair = garden.find(id);
        if (chair == null) {
            throw new IndexOutOfBoundsException("no such chair");
        }
        return chair;
    }

    private static int demandElement(int element) {
        if (element == NONE) {
            throw new NoSuchElementException("there is none");
        }
        return element;
    }

    private void demandChairs() {
        if (garden.chairCount == 0) {
            throw new ArithmeticException("there are no chairs");
        }
    }

    private void demandRejection() {
        if (latestReason == 0) {
            throw new NoSuchElementException("no call was rejected");
        }
    }

    private int change(char deed, int first, int second) {
        int verdict = judge.examine(garden, deed, first, second);
        if (verdict == Judge.UNKNOWN) {
            throw new IndexOutOfBoundsException("no such lawn or chair");
        }
        if (verdict == Judge.UNFIT) {
            throw new IllegalArgumentException("not accepted");
        }
        if (verdict == Judge.REJECTED) {
            rememberRejection(judge.reason, judge.detail, 0);
            throw new UnsupportedOperationException("rejected");
        }
        history.keep(garden);
        return garden.perform(deed, first, second);
    }

    /** Answers how many commands were performed ahead of the first one that fails. */
    private int performCommands() {
        for (int number = 0; number < input.count; number++) {
            char deed = input.deedOf(number);
            int first = input.firstOf(number);
            int second = input.secondOf(number);
            if (judge.examine(garden, deed, first, second) != Judge.ALLOWED) {
                return number;
            }
            garden.perform(deed, first, second);
        }
        return input.count;
    }

    private void throwForCommand(int number) {
        if (judge.verdict != Judge.REJECTED) {
            throw new IllegalStateException("a command is not accepted");
        }
        rememberRejection(COMMAND_REJECTED, number, judge.reason);
        throw new UnsupportedOperationException("a command is rejected");
    }

    private void rememberRejection(int reason, int detail, int cause) {
        latestReason = reason;
        latestDetail = detail;
        latestCause = cause;
    }

    /** The kinds of change, each with the letter of its command. */
    private static final class Deed {
        static final char ADD_PATH = 'p';
        static final char REMOVE_PATH = 'q';
        static final char SET_SHADE = 'h';
        static final char ADD_CHAIR = 'c';
        static final char SCRAP = 's';
        static final char FOLD = 'f';
        static final char UNFOLD = 'u';
        static final char OIL = 'o';
        static final char MOVE = 'm';
        static final char MIGRATE = 'g';
        static final char ADD_OIL = 'a';
        static final char PASS_DAYS = 'd';
    }

    /** One number for each lawn. Every index is tested here, so that no caller has to. */
    private static final class LawnRow {
        private final int[] numbers = new int[LAWNS];

        int at(int lawn) {
            return lawn >= 0 && lawn < LAWNS ? numbers[lawn] : 0;
        }

        void set(int lawn, int number) {
            if (lawn >= 0 && lawn < LAWNS) {
                numbers[lawn] = number;
            }
        }

        void grow(int lawn, int by) {
            if (lawn >= 0 && lawn < LAWNS) {
                numbers[lawn] += by;
            }
        }

        void become(LawnRow other) {
            System.arraycopy(other.numbers, 0, numbers, 0, LAWNS);
        }
    }

    /** The paths. A set of lawns is a number in which bit n stands for lawn n. */
    private static final class Paths {
        private final LawnRow neighbours = new LawnRow();
        private int count;

        void become(Paths other) {
            neighbours.become(other.neighbours);
            count = other.count;
        }

        boolean areNeighbours(int first, int second) {
            return holds(neighbours.at(first), second);
        }

        int add(int first, int second) {
            neighbours.set(first, neighbours.at(first) | 1 << second);
            neighbours.set(second, neighbours.at(second) | 1 << first);
            count++;
            return count;
        }

        int remove(int first, int second) {
            neighbours.set(first, neighbours.at(first) & ~(1 << second));
            neighbours.set(second, neighbours.at(second) & ~(1 << first));
            count--;
            return count;
        }

        /** The breadth-first search: each round adds the lawns that are one step further away. */
        int stepsBetween(int first, int second) {
            int reached = 1 << first;
            for (int steps = 0; steps < LAWNS; steps++) {
                if (holds(reached, second)) {
                    return steps;
                }
                reached = withNeighbours(reached);
            }
            return NONE;
        }

        int countReached(int lawn) {
            int reached = 1 << lawn;
            for (int steps = 1; steps < LAWNS; steps++) {
                reached = withNeighbours(reached);
            }
            return Integer.bitCount(reached);
        }

        int nextTowards(int lawn, int goal) {
            int stepsAfter = stepsBetween(lawn, goal) - 1;
            for (int next = 0; next < LAWNS; next++) {
                if (areNeighbours(lawn, next) && stepsBetween(next, goal) == stepsAfter) {
                    return next;
                }
            }
            return lawn;
        }

        private int withNeighbours(int lawns) {
            int all = lawns;
            for (int lawn = 0; lawn < LAWNS; lawn++) {
                if (holds(lawns, lawn)) {
                    all |= neighbours.at(lawn);
                }
            }
            return all;
        }

        private static boolean holds(int lawns, int lawn) {
            return (lawns >> lawn & 1) != 0;
        }
    }

    /** The second way to find distances: upper bounds for all pairs, improved until nothing changes. */
    private static final class Improvement {
        /** More than any distance between lawns that can be reached. */
        private static final int FAR = LAWNS;
        /** No bound can fall more often than FAR times, so that more rounds can't all improve one. */
        private static final int MOST_ROUNDS = LAWNS * LAWNS * FAR;

        private final int[][] bounds = new int[LAWNS][LAWNS];

        void measure(Paths paths) {
            for (int first = 0; first < LAWNS; first++) {
                for (int second = 0; second < LAWNS; second++) {
                    bounds[first][second] = firstBound(paths, first, second);
                }
            }
            boolean improved = true;
            for (int round = 0; improved && round < MOST_ROUNDS; round++) {
                improved = improve();
            }
        }

        int between(int first, int second) {
            if (!isLawn(first) || !isLawn(second)) {
                return NONE;
            }
            int bound = bounds[first][second];
            return bound < FAR ? bound : NONE;
        }

        boolean agreesWith(Paths paths) {
            for (int first = 0; first < LAWNS; first++) {
                for (int second = 0; second < LAWNS; second++) {
                    if (between(first, second) != paths.stepsBetween(first, second)) {
                        return false;
                    }
                }
            }
            return true;
        }

        private static int firstBound(Paths paths, int first, int second) {
            if (first == second) {
                return 0;
            }
            return paths.areNeighbours(first, second) ? 1 : FAR;
        }

        private boolean improve() {
            boolean improved = false;
            for (int first = 0; first < LAWNS; first++) {
                for (int second = 0; second < LAWNS; second++) {
                    for (int between = 0; between < LAWNS; between++) {
                        int detour = bounds[first][between] + bounds[between][second];
                        if (detour < bounds[first][second]) {
                            bounds[first][second] = detour;
                            improved = true;
                        }
                    }
                }
            }
            return improved;
        }
    }

    private static final class Chair {
        private int id;
        private int lawn;
        private int rust;
        private int dayAdded;
        private boolean folded;

        void become(Chair other) {
            id = other.id;
            lawn = other.lawn;
            rust = other.rust;
            dayAdded = other.dayAdded;
            folded = other.folded;
        }

        boolean grazesOn(int someLawn) {
            return lawn == someLawn && !folded;
        }

        boolean isElderThan(Chair other) {
            return rust != other.rust ? rust > other.rust : id < other.id;
        }

        boolean rustsAheadOf(Chair other) {
            if (rust == other.rust && dayAdded != other.dayAdded) {
                return dayAdded < other.dayAdded;
            }
            return isElderThan(other);
        }
    }

    /** All the data that undo and the snapshot cover. */
    private static final class Garden {
        private final Paths paths = new Paths();
        private final LawnRow shades = new LawnRow();
        private final LawnRow herdSizes = new LawnRow();
        /**
         * The first chairCount of them are the chairs of the garden, the one that came to its lawn last at the end,
         * so that a herd is what stands on its lawn, in this order. The others wait to be used again.
         */
        private final Chair[] chairs = new Chair[MOST_CHAIRS];
        private int chairCount;
        private int nextId;
        private int day;
        private int oil = FIRST_OIL;
        private int collapsed;
        private int scrapped;
        private int moves;
        private int grazed;

        Garden() {
            for (int lawn = 0; lawn < LAWNS; lawn++) {
                shades.set(lawn, FIRST_SHADE);
            }
            for (int index = 0; index < MOST_CHAIRS; index++) {
                chairs[index] = new Chair();
            }
        }

        void become(Garden other) {
            paths.become(other.paths);
            shades.become(other.shades);
            herdSizes.become(other.herdSizes);
            chairCount = other.chairCount;
            for (int index = 0; index < MOST_CHAIRS; index++) {
                chairs[index].become(other.chairs[index]);
            }
            nextId = other.nextId;
            day = other.day;
            oil = other.oil;
            collapsed = other.collapsed;
            scrapped = other.scrapped;
            moves = other.moves;
            grazed = other.grazed;
        }

        /** Does what the judge has allowed, and answers what the method of the change returns. */
        int perform(char deed, int first, int second) {
            switch (deed) {
                case Deed.ADD_PATH:
                    return paths.add(first, second);
                case Deed.REMOVE_PATH:
                    return paths.remove(first, second);
                case Deed.SET_SHADE:
                    return changeShade(first, second);
                case Deed.ADD_CHAIR:
                    return settle(first, second);
                case Deed.SCRAP:
                    return scrap(first);
                case Deed.FOLD:
                    return setFolded(first, true);
                case Deed.UNFOLD:
                    return setFolded(first, false);
                case Deed.OIL:
                    return useOil(first);
                case Deed.MOVE:
                    return move(first, second);
                case Deed.MIGRATE:
                    return moveHerd(first, second);
                case Deed.ADD_OIL:
                    oil += first;
                    return oil;
                case Deed.PASS_DAYS:
                    return pass(first);
                default:
                    return NONE;
            }
        }

        private int changeShade(int lawn, int shade) {
            int previous = shades.at(lawn);
            shades.set(lawn, shade);
            return previous;
        }

        private int settle(int lawn, int rust) {
            if (chairCount >= MOST_CHAIRS) {
                return NONE;
            }
            Chair chair = chairs[chairCount];
            chair.id = nextId;
            chair.lawn = lawn;
            chair.rust = rust;
            chair.dayAdded = day;
            chair.folded = false;
            chairCount++;
            nextId++;
            herdSizes.grow(lawn, 1);
            return chair.id;
        }

        private int scrap(int id) {
            int index = indexOf(id);
            if (index == NONE) {
                return NONE;
            }
            Chair chair = chairs[index];
            herdSizes.grow(chair.lawn, -1);
            shiftToEnd(index);
            chairCount--;
            scrapped++;
            return chair.rust;
        }

        private int setFolded(int id, boolean folded) {
            Chair chair = find(id);
            if (chair != null) {
                chair.folded = folded;
            }
            return countFolded();
        }

        private int useOil(int id) {
            Chair chair = find(id);
            if (chair == null) {
                return NONE;
            }
            chair.rust = Math.max(0, chair.rust - RUST_OILED_AWAY);
            oil--;
            return chair.rust;
        }

        private int move(int id, int lawn) {
            int index = indexOf(id);
            if (index == NONE) {
                return NONE;
            }
            int previous = chairs[index].lawn;
            moveAt(index, lawn);
            return previous;
        }

        private int moveHerd(int from, int to) {
            int moving = Math.min(countGrazingOn(from), PLACES_OF_A_LAWN - herdSizes.at(to));
            for (int moved = 0; moved < moving; moved++) {
                moveAt(firstGrazingOn(from), to);
            }
            return moving;
        }

        private int firstGrazingOn(int lawn) {
            for (int index = 0; index < chairCount; index++) {
                if (chairs[index].grazesOn(lawn)) {
                    return index;
                }
            }
            return NONE;
        }

        private void moveAt(int index, int lawn) {
            if (index < 0 || index >= chairCount) {
                return;
            }
            Chair chair = chairs[index];
            herdSizes.grow(chair.lawn, -1);
            chair.lawn = lawn;
            herdSizes.grow(lawn, 1);
            shiftToEnd(index);
            moves++;
        }

        private void shiftToEnd(int index) {
            if (index < 0 || index >= chairCount) {
                return;
            }
            Chair chair = chairs[index];
            for (int next = index + 1; next < chairCount; next++) {
                chairs[next - 1] = chairs[next];
            }
            chairs[chairCount - 1] = chair;
        }

        int pass(int days) {
            int before = collapsed;
            for (int passed = 0; passed < days; passed++) {
                passOneDay();
            }
            return collapsed - before;
        }

        void passOneDay() {
            int season = comingSeason();
            for (int lawn = 0; lawn < LAWNS; lawn++) {
                graze(lawn, season);
            }
            collapse();
            day++;
        }

        private void graze(int lawn, int season) {
            int shade = shades.at(lawn);
            for (int index = 0; index < chairCount; index++) {
                Chair chair = chairs[index];
                if (chair.grazesOn(lawn)) {
                    if (shade > 0) {
                        shade--;
                        grazed++;
                    } else {
                        chair.rust++;
                    }
                    if (season == WINTER) {
                        chair.rust++;
                    }
                }
            }
            // The growth falls by 1 from season to season: 3 in spring, 0 in winter.
            shades.set(lawn, Math.min(MOST_SHADE, shade + WINTER - season));
        }

        /** The chairs that stay close up in their order; those that collapse wait behind them. */
        private void collapse() {
            int staying = 0;
            for (int index = 0; index < chairCount; index++) {
                Chair chair = chairs[index];
                if (chair.rust > MOST_RUST) {
                    herdSizes.grow(chair.lawn, -1);
                    collapsed++;
                } else {
                    chairs[index] = chairs[staying];
                    chairs[staying] = chair;
                    staying++;
                }
            }
            chairCount = staying;
        }

        int comingSeason() {
            return day / DAYS_OF_A_SEASON % SEASONS;
        }

        private int indexOf(int id) {
            for (int index = 0; index < chairCount; index++) {
                if (chairs[index].id == id) {
                    return index;
                }
            }
            return NONE;
        }

        Chair find(int id) {
            int index = indexOf(id);
            return index == NONE ? null : chairs[index];
        }

        int placeInHerd(Chair chair) {
            int place = 0;
            for (int index = 0; index < chairCount && chairs[index] != chair; index++) {
                if (chairs[index].lawn == chair.lawn) {
                    place++;
                }
            }
            return place;
        }

        private Chair findInHerd(int lawn, int position) {
            int place = 0;
            for (int index = 0; index < chairCount; index++) {
                if (chairs[index].lawn == lawn) {
                    if (place == position) {
                        return chairs[index];
                    }
                    place++;
                }
            }
            return null;
        }

        int idInHerd(int lawn, int position) {
            Chair chair = findInHerd(lawn, position);
            return chair == null ? NONE : chair.id;
        }

        int idOfElder(int lawn) {
            Chair elder = null;
            for (int index = 0; index < chairCount; index++) {
                Chair chair = chairs[index];
                if (chair.lawn == lawn && (elder == null || chair.isElderThan(elder))) {
                    elder = chair;
                }
            }
            return elder == null ? NONE : elder.id;
        }

        int countChairsOn(int lawn) {
            int count = 0;
            for (int index = 0; index < chairCount; index++) {
                if (chairs[index].lawn == lawn) {
                    count++;
                }
            }
            return count;
        }

        int countGrazingOn(int lawn) {
            int count = 0;
            for (int index = 0; index < chairCount; index++) {
                if (chairs[index].grazesOn(lawn)) {
                    count++;
                }
            }
            return count;
        }

        int countFolded() {
            int count = 0;
            for (int index = 0; index < chairCount; index++) {
                if (chairs[index].folded) {
                    count++;
                }
            }
            return count;
        }

        int sumOfRust() {
            int sum = 0;
            for (int index = 0; index < chairCount; index++) {
                sum += chairs[index].rust;
            }
            return sum;
        }

        int sumOfRustByHerds() {
            int sum = 0;
            for (int lawn = 0; lawn < LAWNS; lawn++) {
                for (int position = 0; position < herdSizes.at(lawn); position++) {
                    Chair chair = findInHerd(lawn, position);
                    if (chair != null) {
                        sum += chair.rust;
                    }
                }
            }
            return sum;
        }

        int idAtRank(int rank) {
            for (int index = 0; index < chairCount; index++) {
                if (rankOf(chairs[index]) == rank) {
                    return chairs[index].id;
                }
            }
            return NONE;
        }

        private int rankOf(Chair chair) {
            int rank = 0;
            for (int index = 0; index < chairCount; index++) {
                if (chairs[index].rustsAheadOf(chair)) {
                    rank++;
                }
            }
            return rank;
        }

        int lawnAtRank(int rank) {
            for (int lawn = 0; lawn < LAWNS; lawn++) {
                if (rankOfLawn(lawn) == rank) {
                    return lawn;
                }
            }
            return NONE;
        }

        private int rankOfLawn(int lawn) {
            int rank = 0;
            for (int other = 0; other < LAWNS; other++) {
                if (isBetter(other, lawn)) {
                    rank++;
                }
            }
            return rank;
        }

        int shadiestNeighbour(int lawn) {
            int best = NONE;
            for (int other = 0; other < LAWNS; other++) {
                if (paths.areNeighbours(lawn, other) && (best == NONE || isBetter(other, best))) {
                    best = other;
                }
            }
            return best;
        }

        private boolean isBetter(int lawn, int other) {
            if (shades.at(lawn) != shades.at(other)) {
                return shades.at(lawn) > shades.at(other);
            }
            if (herdSizes.at(lawn) != herdSizes.at(other)) {
                return herdSizes.at(lawn) < herdSizes.at(other);
            }
            return lawn < other;
        }

        boolean herdSizesAgree() {
            for (int lawn = 0; lawn < LAWNS; lawn++) {
                if (herdSizes.at(lawn) != countChairsOn(lawn)) {
                    return false;
                }
            }
            return true;
        }

        boolean everyChairIsInOneHerd() {
            for (int index = 0; index < chairCount; index++) {
                if (countHerdsOf(chairs[index]) != 1) {
                    return false;
                }
            }
            return true;
        }

        private int countHerdsOf(Chair chair) {
            int count = 0;
            for (int lawn = 0; lawn < LAWNS; lawn++) {
                for (int position = 0; position < herdSizes.at(lawn); position++) {
                    if (findInHerd(lawn, position) == chair) {
                        count++;
                    }
                }
            }
            return count;
        }

        void describe(int lawn, StringBuilder text) {
            text.append(lawn).append(':').append(shades.at(lawn));
            for (int index = 0; index < chairCount; index++) {
                Chair chair = chairs[index];
                if (chair.lawn == lawn) {
                    text.append(' ').append(chair.id).append('r').append(chair.rust);
                    if (chair.folded) {
                        text.append('f');
                    }
                }
            }
        }
    }

    /** Says of a change, before it happens, whether it may happen. */
    private static final class Judge {
        static final int ALLOWED = 0;
        static final int UNKNOWN = 1;
        static final int UNFIT = 2;
        static final int REJECTED = 3;

        private int verdict;
        private int reason;
        private int detail;

        int examine(Garden garden, char deed, int first, int second) {
            verdict = ALLOWED;
            switch (deed) {
                case Deed.ADD_PATH:
                    examineNewPath(garden, first, second);
                    break;
                case Deed.REMOVE_PATH:
                    examineOldPath(garden, first, second);
                    break;
                case Deed.SET_SHADE:
                    examineShade(first, second);
                    break;
                case Deed.ADD_CHAIR:
                    examineNewChair(garden, first, second);
                    break;
                case Deed.SCRAP:
                    examineScrapping(garden, first);
                    break;
                case Deed.FOLD:
                    examineFolding(garden, first);
                    break;
                case Deed.UNFOLD:
                    examineUnfolding(garden, first);
                    break;
                case Deed.OIL:
                    examineOiling(garden, first);
                    break;
                case Deed.MOVE:
                    examineMove(garden, first, second);
                    break;
                case Deed.MIGRATE:
                    examineMigration(garden, first, second);
                    break;
                case Deed.ADD_OIL:
                    examineNewOil(garden, first);
                    break;
                case Deed.PASS_DAYS:
                    examineDays(first);
                    break;
                default:
                    verdict = UNFIT;
                    break;
            }
            return verdict;
        }

        private void reject(int why, int what) {
            verdict = REJECTED;
            reason = why;
            detail = what;
        }

        private static boolean isFull(Garden garden, int lawn) {
            return garden.herdSizes.at(lawn) >= PLACES_OF_A_LAWN;
        }

        private void examineNewPath(Garden garden, int first, int second) {
            if (!isLawn(first) || !isLawn(second)) {
                verdict = UNKNOWN;
            } else if (first == second) {
                verdict = UNFIT;
            } else if (garden.paths.areNeighbours(first, second)) {
                reject(PATH_EXISTS, garden.paths.count);
            }
        }

        private void examineOldPath(Garden garden, int first, int second) {
            if (!isLawn(first) || !isLawn(second)) {
                verdict = UNKNOWN;
            } else if (first == second) {
                verdict = UNFIT;
            } else if (!garden.paths.areNeighbours(first, second)) {
                reject(NO_PATH, garden.paths.stepsBetween(first, second));
            }
        }

        private void examineShade(int lawn, int shade) {
            if (!isLawn(lawn)) {
                verdict = UNKNOWN;
            } else if (shade < 0 || shade > MOST_SHADE) {
                verdict = UNFIT;
            }
        }

        private void examineNewChair(Garden garden, int lawn, int rust) {
            if (!isLawn(lawn)) {
                verdict = UNKNOWN;
            } else if (rust < 0 || rust > MOST_RUST) {
                verdict = UNFIT;
            } else if (garden.chairCount >= MOST_CHAIRS) {
                reject(CHAIR_LIMIT, MOST_CHAIRS);
            } else if (isFull(garden, lawn)) {
                reject(LAWN_FULL, lawn);
            }
        }

        private void examineScrapping(Garden garden, int id) {
            if (garden.find(id) == null) {
                verdict = UNKNOWN;
            }
        }

        private void examineFolding(Garden garden, int id) {
            Chair chair = garden.find(id);
            if (chair == null) {
                verdict = UNKNOWN;
            } else if (chair.folded) {
                reject(FOLDED, id);
            }
        }

        private void examineUnfolding(Garden garden, int id) {
            Chair chair = garden.find(id);
            if (chair == null) {
                verdict = UNKNOWN;
            } else if (!chair.folded) {
                reject(NOT_FOLDED, id);
            }
        }

        private void examineOiling(Garden garden, int id) {
            Chair chair = garden.find(id);
            if (chair == null) {
                verdict = UNKNOWN;
            } else if (chair.rust == 0) {
                reject(NO_RUST, garden.oil);
            } else if (garden.oil == 0) {
                reject(NO_OIL, chair.rust);
            }
        }

        private void examineMove(Garden garden, int id, int lawn) {
            Chair chair = garden.find(id);
            if (chair == null || !isLawn(lawn)) {
                verdict = UNKNOWN;
            } else if (chair.folded) {
                reject(FOLDED, id);
            } else if (!garden.paths.areNeighbours(chair.lawn, lawn)) {
                reject(NO_PATH, garden.paths.stepsBetween(chair.lawn, lawn));
            } else if (isFull(garden, lawn)) {
                reject(LAWN_FULL, lawn);
            }
        }

        private void examineMigration(Garden garden, int from, int to) {
            if (!isLawn(from) || !isLawn(to)) {
                verdict = UNKNOWN;
            } else if (!garden.paths.areNeighbours(from, to)) {
                reject(NO_PATH, garden.paths.stepsBetween(from, to));
            } else if (garden.countGrazingOn(from) == 0) {
                reject(NO_HERD, garden.herdSizes.at(from));
            } else if (isFull(garden, to)) {
                reject(LAWN_FULL, to);
            }
        }

        private void examineNewOil(Garden garden, int units) {
            if (units < 1 || units > MOST_OIL_AT_ONCE) {
                verdict = UNFIT;
            } else if (garden.oil + units > MOST_OIL) {
                reject(OIL_LIMIT, garden.oil);
            }
        }

        private void examineDays(int days) {
            if (!areDays(days)) {
                verdict = UNFIT;
            }
        }
    }

    /** The input, and the commands that were read from it. */
    private static final class CommandInput {
        private static final char SEPARATOR = ';';
        /** What is next behind the last character; no character of the input has this code. */
        private static final char END = 0;
        /** In the shape of a command: one digit, or a number of one or two digits. */
        private static final char DIGIT = 'd';
        private static final char NUMBER = 'n';

        private final char[] text = new char[LONGEST_INPUT];
        private final char[] deeds = new char[LONGEST_INPUT];
        private final int[] firsts = new int[LONGEST_INPUT];
        private final int[] seconds = new int[LONGEST_INPUT];
        private int length;
        private int position;
        private int count;

        boolean isFull() {
            return length >= LONGEST_INPUT;
        }

        int take(char character) {
            if (!isFull()) {
                text[length] = character;
                length++;
            }
            return length;
        }

        void empty() {
            length = 0;
        }

        char deedOf(int number) {
            return isCommand(number) ? deeds[number] : END;
        }

        int firstOf(int number) {
            return isCommand(number) ? firsts[number] : NONE;
        }

        int secondOf(int number) {
            return isCommand(number) ? seconds[number] : NONE;
        }

        /** Answers the offset of the syntax error, or NONE. */
        int readCommands() {
            position = 0;
            count = 0;
            // Every round reads a character or ends the loop.
            for (int round = 0; round <= LONGEST_INPUT; round++) {
                if (!readCommand()) {
                    return position;
                }
                if (next() == END) {
                    return NONE;
                }
                if (!readSign(SEPARATOR)) {
                    return position;
                }
            }
            return position;
        }

        private boolean isCommand(int number) {
            return number >= 0 && number < count;
        }

        private static String shapeOf(char deed) {
            switch (deed) {
                case Deed.ADD_PATH:
                case Deed.REMOVE_PATH:
                case Deed.ADD_CHAIR:
                    return "dd";
                case Deed.SET_SHADE:
                    return "d=n";
                case Deed.MOVE:
                    return "n>d";
                case Deed.MIGRATE:
                    return "d>d";
                case Deed.SCRAP:
                case Deed.FOLD:
                case Deed.UNFOLD:
                case Deed.OIL:
                case Deed.ADD_OIL:
                case Deed.PASS_DAYS:
                    return "n";
                default:
                    return "";
            }
        }

        private boolean readCommand() {
            char deed = next();
            String shape = shapeOf(deed);
            if (shape.isEmpty() || count >= LONGEST_INPUT) {
                return false;
            }
            position++;
            deeds[count] = deed;
            firsts[count] = 0;
            seconds[count] = 0;
            for (int part = 0; part < shape.length(); part++) {
                if (!readPart(shape.charAt(part), part == 0)) {
                    return false;
                }
            }
            count++;
            return true;
        }

        private boolean readPart(char kind, boolean isFirst) {
            if (kind != DIGIT && kind != NUMBER) {
                return readSign(kind);
            }
            int value = readNumber(kind == DIGIT ? 1 : 2);
            if (value == NONE || count >= LONGEST_INPUT) {
                return false;
            }
            if (isFirst) {
                firsts[count] = value;
            } else {
                seconds[count] = value;
            }
            return true;
        }

        private boolean readSign(char sign) {
            if (next() != sign) {
                return false;
            }
            position++;
            return true;
        }

        private int readNumber(int mostDigits) {
            int value = NONE;
            for (int digit = 0; digit < mostDigits && isDigit(next()); digit++) {
                value = Math.max(0, value) * 10 + next() - '0';
                position++;
            }
            return value;
        }

        private char next() {
            return position >= 0 && position < length ? text[position] : END;
        }

        private static boolean isDigit(char character) {
            return character >= '0' && character <= '9';
        }
    }

    /** The gardens ahead of the latest changes, the latest one at the end. */
    private static final class History {
        private final Garden[] past = new Garden[MOST_UNDOS];
        private int count;

        History() {
            for (int index = 0; index < MOST_UNDOS; index++) {
                past[index] = new Garden();
            }
        }

        void keep(Garden garden) {
            if (count >= MOST_UNDOS) {
                dropOldest();
            }
            past[count].become(garden);
            count++;
        }

        void takeBack(Garden garden) {
            if (count > 0) {
                count--;
                garden.become(past[count]);
            }
        }

        void forget() {
            count = 0;
        }

        private void dropOldest() {
            Garden oldest = past[0];
            for (int index = 1; index < MOST_UNDOS; index++) {
                past[index - 1] = past[index];
            }
            past[MOST_UNDOS - 1] = oldest;
            count = MOST_UNDOS - 1;
        }
    }
}
