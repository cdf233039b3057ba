import java.lang.reflect.InvocationTargetException;
import java.lang.reflect.Method;
import java.util.ArrayDeque;
import java.util.ArrayList;
import java.util.Arrays;
import java.util.Comparator;
import java.util.Deque;
import java.util.List;
import java.util.Map;
import java.util.NoSuchElementException;
import java.util.Random;
import java.util.TreeMap;
import java.util.TreeSet;
import java.util.regex.Matcher;
import java.util.regex.Pattern;

/**
 * Compares the class with a model that was written from the document in another way, over runs of arbitrary calls:
 * each answer must be the same, and each exception must be of the very class that the model throws.
 */
public final class ModelTest {
    private static final int RUNS = 3000;
    private static final int CALLS_OF_A_RUN = 512;

    /** A call that the model rejects, with the reason and the detail. */
    private static final class Rejection extends UnsupportedOperationException {
        private static final long serialVersionUID = 1;
        private final int reason;
        private final int detail;

        Rejection(int reason, int detail) {
            this.reason = reason;
            this.detail = detail;
        }
    }

    private interface Change {
        int make();
    }

    /** What undo and the snapshot cover. A chair is a row of lawn, rust, day of its addition, and 1 if folded. */
    private static final class Data {
        private final TreeSet<Integer> paths = new TreeSet<>();
        private final int[] shades = {5, 5, 5, 5, 5, 5};
        private final TreeMap<Integer, int[]> chairs = new TreeMap<>();
        private final List<List<Integer>> herds = new ArrayList<>();
        private int nextId;
        private int day;
        private int oil = 3;
        private int collapsed;
        private int scrapped;
        private int moves;
        private int grazed;

        Data() {
            for (int lawn = 0; lawn < 6; lawn++) {
                herds.add(new ArrayList<>());
            }
        }

        Data copy() {
            Data copy = new Data();
            copy.paths.addAll(paths);
            System.arraycopy(shades, 0, copy.shades, 0, 6);
            chairs.forEach((id, chair) -> copy.chairs.put(id, chair.clone()));
            for (int lawn = 0; lawn < 6; lawn++) {
                copy.herds.get(lawn).addAll(herds.get(lawn));
            }
            copy.nextId = nextId;
            copy.day = day;
            copy.oil = oil;
            copy.collapsed = collapsed;
            copy.scrapped = scrapped;
            copy.moves = moves;
            copy.grazed = grazed;
            return copy;
        }

        void remove(int id) {
            herds.get(chairs.remove(id)[0]).remove(Integer.valueOf(id));
        }

        void dayPasses() {
            int season = day % 20 / 5;
            for (int lawn = 0; lawn < 6; lawn++) {
                for (int id : new ArrayList<>(herds.get(lawn))) {
                    int[] chair = chairs.get(id);
                    if (chair[3] == 1) {
                        continue;
                    }
                    if (shades[lawn] == 0) {
                        chair[1] += 1;
                    } else {
                        shades[lawn] -= 1;
                        grazed += 1;
                    }
                    chair[1] += season == 3 ? 1 : 0;
                    if (chair[1] >= 10) {
                        remove(id);
                        collapsed += 1;
                    }
                }
                shades[lawn] = Math.min(20, shades[lawn] + new int[] {3, 2, 1, 0}[season]);
            }
            day += 1;
        }
    }

    /** The face of the class once more. Its public methods are called by their names. */
    public static final class Model {
        private static final String COMMAND =
            "(?:[pqc]\\d\\d|h\\d=\\d\\d?|[sfuoad]\\d\\d?|m\\d\\d?>\\d|g\\d>\\d)";
        private static final Pattern COMMANDS = Pattern.compile(COMMAND + "(?:;" + COMMAND + ")*");

        private Data now = new Data();
        private Data saved;
        private final Deque<Data> past = new ArrayDeque<>();
        private String input = "";
        private String output = "";
        private int[] rejection;
        private int cause;
        private int offset = -1;

        private int change(Change change) {
            Data before = now.copy();
            int answer;
            try {
                answer = change.make();
            } catch (Rejection e) {
                now = before;
                rejection = new int[] {e.reason, e.detail, 0};
                throw e;
            } catch (RuntimeException e) {
                now = before;
                throw e;
            }
            past.addLast(before);
            if (past.size() > 8) {
                past.removeFirst();
            }
            return answer;
        }

        private static void lawns(int... lawns) {
            for (int lawn : lawns) {
                if (lawn < 0 || lawn > 5) {
                    throw new IndexOutOfBoundsException();
                }
            }
        }

        private static void range(int number, int least, int most) {
            if (number < least || number > most) {
                throw new IllegalArgumentException();
            }
        }

        private int[] chair(int id) {
            if (!now.chairs.containsKey(id)) {
                throw new IndexOutOfBoundsException();
            }
            return now.chairs.get(id);
        }

        private static int pair(int first, int second) {
            return Math.min(first, second) * 10 + Math.max(first, second);
        }

        private int steps(int first, int second) {
            int[][] table = new int[6][6];
            for (int i = 0; i < 6; i++) {
                for (int j = 0; j < 6; j++) {
                    table[i][j] = i == j ? 0 : now.paths.contains(pair(i, j)) ? 1 : 1000;
                }
            }
            for (int k = 0; k < 6; k++) {
                for (int i = 0; i < 6; i++) {
                    for (int j = 0; j < 6; j++) {
                        table[i][j] = Math.min(table[i][j], table[i][k] + table[k][j]);
                    }
                }
            }
            return table[first][second] > 5 ? -1 : table[first][second];
        }

        private int makePath(int first, int second) {
            lawns(first, second);
            if (first == second) {
                throw new IllegalArgumentException();
            }
            if (!now.paths.add(pair(first, second))) {
                throw new Rejection(1, now.paths.size());
            }
            return now.paths.size();
        }

        public int addPath(int first, int second) {
            return change(() -> makePath(first, second));
        }

        private int breakPath(int first, int second) {
            lawns(first, second);
            if (first == second) {
                throw new IllegalArgumentException();
            }
            if (!now.paths.remove(pair(first, second))) {
                throw new Rejection(2, steps(first, second));
            }
            return now.paths.size();
        }

        public int removePath(int first, int second) {
            return change(() -> breakPath(first, second));
        }

        public boolean isPath(int first, int second) {
            lawns(first, second);
            return now.paths.contains(pair(first, second));
        }

        public int distance(int first, int second) {
            lawns(first, second);
            if (steps(first, second) < 0) {
                throw new NoSuchElementException();
            }
            return steps(first, second);
        }

        public int distanceByImprovement(int first, int second) {
            return distance(first, second);
        }

        /** Among all walks of the right length, the first one in the order of their texts. */
        private String firstWalk(String walk, int goal, int length) {
            int last = walk.charAt(walk.length() - 1) - '0';
            if (length == 0) {
                return last == goal ? walk : null;
            }
            for (int next = 0; next < 6; next++) {
                if (now.paths.contains(pair(last, next))) {
                    String found = firstWalk(walk + next, goal, length - 1);
                    if (found != null) {
                        return found;
                    }
                }
            }
            return null;
        }

        public int routeAt(int first, int second, int position) {
            int steps = distance(first, second);
            if (position < 0 || position > steps) {
                throw new NoSuchElementException();
            }
            return firstWalk("" + first, second, steps).charAt(position) - '0';
        }

        public int reachableLawns(int lawn) {
            lawns(lawn);
            int count = 0;
            for (int other = 0; other < 6; other++) {
                count += steps(lawn, other) >= 0 ? 1 : 0;
            }
            return count;
        }

        public int pathCount() {
            return now.paths.size();
        }

        private int putShade(int lawn, int shade) {
            lawns(lawn);
            range(shade, 0, 20);
            int previous = now.shades[lawn];
            now.shades[lawn] = shade;
            return previous;
        }

        public int setShade(int lawn, int shade) {
            return change(() -> putShade(lawn, shade));
        }

        public int shadeOf(int lawn) {
            lawns(lawn);
            return now.shades[lawn];
        }

        private int makeChair(int lawn, int rust) {
            lawns(lawn);
            range(rust, 0, 9);
            if (now.chairs.size() == 12) {
                throw new Rejection(3, 12);
            }
            if (now.herds.get(lawn).size() == 5) {
                throw new Rejection(4, lawn);
            }
            now.chairs.put(now.nextId, new int[] {lawn, rust, now.day, 0});
            now.herds.get(lawn).add(now.nextId);
            return now.nextId++;
        }

        public int addChair(int lawn, int rust) {
            return change(() -> makeChair(lawn, rust));
        }

        private int scrap(int chair) {
            int rust = chair(chair)[1];
            now.remove(chair);
            now.scrapped++;
            return rust;
        }

        public int scrapChair(int chair) {
            return change(() -> scrap(chair));
        }

        private int bend(int chair, int folded) {
            int[] row = chair(chair);
            if (row[3] == folded) {
                throw new Rejection(folded == 1 ? 5 : 6, chair);
            }
            row[3] = folded;
            return foldedCount();
        }

        public int fold(int chair) {
            return change(() -> bend(chair, 1));
        }

        public int unfold(int chair) {
            return change(() -> bend(chair, 0));
        }

        private void shift(int chair, int lawn) {
            int[] row = now.chairs.get(chair);
            now.herds.get(row[0]).remove(Integer.valueOf(chair));
            now.herds.get(lawn).add(chair);
            row[0] = lawn;
            now.moves++;
        }

        private int walk(int chair, int lawn) {
            int[] row = chair(chair);
            lawns(lawn);
            int from = row[0];
            if (row[3] == 1) {
                throw new Rejection(5, chair);
            }
            if (!now.paths.contains(pair(from, lawn))) {
                throw new Rejection(2, steps(from, lawn));
            }
            if (now.herds.get(lawn).size() == 5) {
                throw new Rejection(4, lawn);
            }
            shift(chair, lawn);
            return from;
        }

        public int moveChair(int chair, int lawn) {
            return change(() -> walk(chair, lawn));
        }

        private int wander(int from, int to) {
            lawns(from, to);
            if (!now.paths.contains(pair(from, to))) {
                throw new Rejection(2, steps(from, to));
            }
            List<Integer> herd = new ArrayList<>(now.herds.get(from));
            int size = herd.size();
            herd.removeIf(id -> now.chairs.get(id)[3] == 1);
            if (herd.isEmpty()) {
                throw new Rejection(7, size);
            }
            if (now.herds.get(to).size() == 5) {
                throw new Rejection(4, to);
            }
            int moved = 0;
            for (int id : herd) {
                if (now.herds.get(to).size() < 5) {
                    shift(id, to);
                    moved++;
                }
            }
            return moved;
        }

        public int migrate(int from, int to) {
            return change(() -> wander(from, to));
        }

        private int grease(int chair) {
            int[] row = chair(chair);
            if (row[1] == 0) {
                throw new Rejection(8, now.oil);
            }
            if (now.oil == 0) {
                throw new Rejection(9, row[1]);
            }
            row[1] = Math.max(0, row[1] - 3);
            now.oil--;
            return row[1];
        }

        public int oilChair(int chair) {
            return change(() -> grease(chair));
        }

        private int fill(int units) {
            range(units, 1, 10);
            if (now.oil + units > 20) {
                throw new Rejection(10, now.oil);
            }
            now.oil += units;
            return now.oil;
        }

        public int addOil(int units) {
            return change(() -> fill(units));
        }

        public boolean exists(int chair) {
            return now.chairs.containsKey(chair);
        }

        public int lawnOf(int chair) {
            return chair(chair)[0];
        }

        public int rustOf(int chair) {
            return chair(chair)[1];
        }

        public boolean isFolded(int chair) {
            return chair(chair)[3] == 1;
        }

        public int ageOf(int chair) {
            return now.day - chair(chair)[2];
        }

        public int positionOf(int chair) {
            return now.herds.get(chair(chair)[0]).indexOf(chair);
        }

        public int herdSize(int lawn) {
            lawns(lawn);
            return now.herds.get(lawn).size();
        }

        public int herdSizeByChairs(int lawn) {
            return herdSize(lawn);
        }

        public int chairAt(int lawn, int position) {
            int size = herdSize(lawn);
            if (position < 0 || position >= size) {
                throw new NoSuchElementException();
            }
            return now.herds.get(lawn).get(position);
        }

        public int elderOf(int lawn) {
            lawns(lawn);
            return now.herds.get(lawn).stream()
                .min(Comparator.<Integer>comparingInt(id -> -now.chairs.get(id)[1]).thenComparingInt(id -> id))
                .orElseThrow(NoSuchElementException::new);
        }

        public int hungryChairs(int lawn) {
            lawns(lawn);
            Data trial = now.copy();
            int shade = trial.shades[lawn];
            int hungry = 0;
            for (int id : trial.herds.get(lawn)) {
                if (trial.chairs.get(id)[3] == 0 && shade-- <= 0) {
                    hungry++;
                }
            }
            return hungry;
        }

        private List<Integer> lawnsInOrder() {
            List<Integer> order = new ArrayList<>(Arrays.asList(0, 1, 2, 3, 4, 5));
            order.sort(Comparator.<Integer>comparingInt(lawn -> -now.shades[lawn])
                .thenComparingInt(lawn -> now.herds.get(lawn).size()).thenComparingInt(lawn -> lawn));
            return order;
        }

        public int bestNeighbour(int lawn) {
            lawns(lawn);
            for (int other : lawnsInOrder()) {
                if (now.paths.contains(pair(lawn, other))) {
                    return other;
                }
            }
            throw new NoSuchElementException();
        }

        private int daysPass(int days) {
            range(days, 1, 20);
            int before = now.collapsed;
            for (int i = 0; i < days; i++) {
                now.dayPasses();
            }
            return now.collapsed - before;
        }

        public int passDays(int days) {
            return change(() -> daysPass(days));
        }

        public int day() {
            return now.day;
        }

        public int season() {
            return now.day % 20 / 5;
        }

        public int daysUntil(int season) {
            range(season, 0, 3);
            int days = 0;
            while ((now.day + days) % 20 / 5 != season) {
                days++;
            }
            return days;
        }

        public int wouldCollapse(int days) {
            range(days, 1, 20);
            Data trial = now.copy();
            for (int i = 0; i < days; i++) {
                trial.dayPasses();
            }
            return trial.collapsed - now.collapsed;
        }

        public int collapseDay(int chair) {
            chair(chair);
            Data trial = now.copy();
            for (int coming = 1; coming <= 100; coming++) {
                trial.dayPasses();
                if (!trial.chairs.containsKey(chair)) {
                    return coming;
                }
            }
            throw new NoSuchElementException();
        }

        public int chairCount() {
            return now.chairs.size();
        }

        public int foldedCount() {
            return now.chairs.values().stream().mapToInt(chair -> chair[3]).sum();
        }

        public int oil() {
            return now.oil;
        }

        public int totalRust() {
            return now.chairs.values().stream().mapToInt(chair -> chair[1]).sum();
        }

        public int totalRustByHerds() {
            return totalRust();
        }

        public int collapsedChairs() {
            return now.collapsed;
        }

        public int scrappedChairs() {
            return now.scrapped;
        }

        public int moveCount() {
            return now.moves;
        }

        public int grazedShade() {
            return now.grazed;
        }

        public int chairByRust(int position) {
            List<Map.Entry<Integer, int[]>> order = new ArrayList<>(now.chairs.entrySet());
            order.sort(Comparator.<Map.Entry<Integer, int[]>>comparingInt(entry -> -entry.getValue()[1])
                .thenComparingInt(entry -> entry.getValue()[2]).thenComparingInt(entry -> entry.getKey()));
            if (position < 0 || position >= order.size()) {
                throw new NoSuchElementException();
            }
            return order.get(position).getKey();
        }

        public int lawnByShade(int position) {
            if (position < 0 || position > 5) {
                throw new NoSuchElementException();
            }
            return lawnsInOrder().get(position);
        }

        public double meanRust() {
            if (now.chairs.isEmpty()) {
                throw new ArithmeticException();
            }
            return (double) totalRust() / (double) chairCount();
        }

        public float foldedShare() {
            if (now.chairs.isEmpty()) {
                throw new ArithmeticException();
            }
            return (float) foldedCount() / (float) chairCount();
        }

        public boolean isConsistent() {
            return true;
        }

        public int writeLawn(int lawn) {
            lawns(lawn);
            output = lawn + ":" + now.shades[lawn];
            for (int id : now.herds.get(lawn)) {
                output += " " + id + "r" + rustOf(id) + (isFolded(id) ? "f" : "");
            }
            return output.length();
        }

        public char outputAt(int index) {
            if (index < 0 || index >= output.length()) {
                throw new IndexOutOfBoundsException();
            }
            return output.charAt(index);
        }

        public int appendInput(char character) {
            range(character, 32, 126);
            if (input.length() == 60) {
                throw new IllegalStateException();
            }
            input += character;
            return input.length();
        }

        /** The length of the longest start of the text with which an input can start, or -1 for an input. */
        private static int errorOffset(String text) {
            if (COMMANDS.matcher(text).matches()) {
                return -1;
            }
            for (int length = text.length(); length > 0; length--) {
                Matcher matcher = COMMANDS.matcher(text.substring(0, length));
                if (matcher.matches() || matcher.hitEnd()) {
                    return length;
                }
            }
            return 0;
        }

        private void command(String text) {
            int[] numbers = new int[2];
            if ("pqc".indexOf(text.charAt(0)) >= 0) {
                numbers[0] = text.charAt(1) - '0';
                numbers[1] = text.charAt(2) - '0';
            } else {
                String[] parts = text.substring(1).split("[=>]");
                for (int i = 0; i < parts.length; i++) {
                    numbers[i] = Integer.parseInt(parts[i]);
                }
            }
            int a = numbers[0];
            int b = numbers[1];
            switch (text.charAt(0)) {
                case 'p' -> makePath(a, b);
                case 'q' -> breakPath(a, b);
                case 'h' -> putShade(a, b);
                case 'c' -> makeChair(a, b);
                case 's' -> scrap(a);
                case 'f' -> bend(a, 1);
                case 'u' -> bend(a, 0);
                case 'o' -> grease(a);
                case 'm' -> walk(a, b);
                case 'g' -> wander(a, b);
                case 'a' -> fill(a);
                default -> daysPass(a);
            }
        }

        private int commands(String[] commands) {
            for (int number = 0; number < commands.length; number++) {
                try {
                    command(commands[number]);
                } catch (IndexOutOfBoundsException | IllegalArgumentException e) {
                    throw new IllegalStateException();
                } catch (Rejection e) {
                    cause = e.reason;
                    throw new Rejection(11, number);
                }
            }
            return commands.length;
        }

        public int execute() {
            String text = input;
            input = "";
            int error = errorOffset(text);
            if (error >= 0) {
                offset = error;
                throw new IllegalArgumentException();
            }
            try {
                return change(() -> commands(text.split(";")));
            } catch (Rejection e) {
                rejection[2] = cause;
                throw e;
            }
        }

        public int syntaxErrorOffset() {
            if (offset < 0) {
                throw new NoSuchElementException();
            }
            return offset;
        }

        private int ofRejection(int index) {
            if (rejection == null) {
                throw new NoSuchElementException();
            }
            return rejection[index];
        }

        public int rejectionReason() {
            return ofRejection(0);
        }

        public int rejectionDetail() {
            return ofRejection(1);
        }

        public int causeReason() {
            if (ofRejection(0) != 11) {
                throw new NoSuchElementException();
            }
            return rejection[2];
        }

        public int undo() {
            if (past.isEmpty()) {
                throw new IllegalStateException();
            }
            now = past.removeLast();
            return past.size();
        }

        public int saveSnapshot() {
            saved = now.copy();
            return saved.chairs.size();
        }

        public int restoreSnapshot() {
            if (saved == null) {
                throw new IllegalStateException();
            }
            now = saved.copy();
            past.clear();
            return now.chairs.size();
        }
    }

    private final Random random;
    private final ChairMigration real = new ChairMigration();
    private final Model model = new Model();
    private final StringBuilder log = new StringBuilder();
    private int calls = 0;
    private int wrong = 0;

    private ModelTest(long seed) {
        random = new Random(seed);
    }

    private static String answer(Object object, String name, Class<?>[] types, Object[] arguments) {
        try {
            Method method = object.getClass().getMethod(name, types);
            Object answer = method.invoke(object, arguments);
            return String.valueOf(answer);
        } catch (InvocationTargetException e) {
            Class<?> thrown = e.getCause().getClass();
            return "throws " + (thrown == Rejection.class ? UnsupportedOperationException.class : thrown).getName();
        } catch (ReflectiveOperationException e) {
            return "has no such method: " + e;
        }
    }

    private void call(Method method, Object... arguments) {
        if (calls >= CALLS_OF_A_RUN) {
            return;
        }
        calls++;
        String name = method.getName();
        String due = answer(model, name, method.getParameterTypes(), arguments);
        String got = answer(real, name, method.getParameterTypes(), arguments);
        log.append(name).append(Arrays.toString(arguments)).append(" -> ").append(got).append('\n');
        if (!due.equals(got)) {
            wrong++;
            log.append("    due is ").append(due).append('\n');
        }
    }

    private int someLawn() {
        return random.nextInt(40) == 0 ? random.nextInt(9) - 2 : random.nextInt(6);
    }

    private int someChair() {
        if (model.now.chairs.isEmpty() || random.nextInt(20) == 0) {
            return random.nextInt(16) - 2;
        }
        return new ArrayList<>(model.now.chairs.keySet()).get(random.nextInt(model.now.chairs.size()));
    }

    /** An argument that often suits the method, seldom at all. */
    private Object argument(String name, int index) {
        if (random.nextInt(150) == 0) {
            return new int[] {Integer.MIN_VALUE, Integer.MAX_VALUE, -1, 31, 32, 64}[random.nextInt(6)];
        }
        switch (name) {
            case "setShade":
                return index == 0 ? someLawn() : random.nextInt(4) == 0 ? random.nextInt(23) - 1 : random.nextInt(4);
            case "addChair":
                return index == 0 ? someLawn() / 2 : random.nextInt(11) - (random.nextInt(20) == 0 ? 1 : 0);
            case "moveChair":
                return index == 0 ? someChair() : someLawn();
            case "addOil":
                return random.nextInt(12);
            case "passDays":
                return random.nextInt(12) == 0 ? random.nextInt(22) : random.nextInt(4);
            case "wouldCollapse":
                return random.nextInt(22);
            case "daysUntil":
                return random.nextInt(6) - 1;
            case "chairByRust":
                return random.nextInt(14) - 1;
            case "outputAt":
                return random.nextInt(30) - 1;
            case "chairAt":
            case "routeAt":
                return index == (name.equals("chairAt") ? 1 : 2) ? random.nextInt(7) - 1 : someLawn();
            case "scrapChair":
            case "fold":
            case "unfold":
            case "oilChair":
            case "exists":
            case "lawnOf":
            case "rustOf":
            case "isFolded":
            case "ageOf":
            case "positionOf":
            case "collapseDay":
                return someChair();
            default:
                return someLawn();
        }
    }

    private String someCommand() {
        int lawn = random.nextInt(20) == 0 ? random.nextInt(10) : random.nextInt(6);
        int other = random.nextInt(20) == 0 ? random.nextInt(10) : random.nextInt(6);
        int chair = Math.min(99, Math.max(0, someChair()));
        switch (random.nextInt(15)) {
            case 0: return "p" + lawn + other;
            case 1: return "q" + lawn + other;
            case 2: return "h" + lawn + "=" + random.nextInt(22);
            case 3: return "c" + lawn / 2 + random.nextInt(10);
            case 4: return "c" + lawn + random.nextInt(10);
            case 5: return "s" + chair;
            case 6: return "f" + chair;
            case 7: return "u" + chair;
            case 8: return "o" + chair;
            case 9: return "m" + chair + ">" + lawn;
            case 10: return "m" + (chair < 10 ? "0" : "") + chair + ">" + lawn;
            case 11: return "g" + lawn + ">" + other;
            case 12: return "a" + random.nextInt(11);
            case 13: return "d" + random.nextInt(6);
            default: return "d" + random.nextInt(100);
        }
    }

    private String someInput() {
        StringBuilder text = new StringBuilder();
        int commands = random.nextInt(5) == 0 ? 25 : 1 + random.nextInt(4);
        for (int i = 0; i < commands; i++) {
            text.append(i == 0 ? "" : ";").append(someCommand());
        }
        if (random.nextInt(4) == 0) {
            int place = random.nextInt(text.length());
            String sign = String.valueOf("0189;>=pqhcsfuomgad x~".charAt(random.nextInt(22)));
            switch (random.nextInt(3)) {
                case 0 -> text.insert(place, sign);
                case 1 -> text.deleteCharAt(place);
                default -> text.replace(place, place + 1, sign);
            }
        }
        return text.length() > 60 ? text.substring(0, random.nextBoolean() ? 61 : text.lastIndexOf(";", 60)) : text.toString();
    }

    private boolean passes() throws ReflectiveOperationException {
        List<Method> methods = new ArrayList<>(Arrays.asList(ChairMigration.class.getDeclaredMethods()));
        methods.removeIf(method -> !java.lang.reflect.Modifier.isPublic(method.getModifiers()));
        methods.sort(Comparator.comparing(Method::getName));
        Method append = ChairMigration.class.getMethod("appendInput", char.class);
        Method execute = ChairMigration.class.getMethod("execute");
        List<String> often = Arrays.asList("addPath", "addChair", "moveChair", "migrate", "fold", "passDays");
        List<String> seldom = Arrays.asList("scrapChair", "removePath", "undo", "restoreSnapshot");
        while (calls < CALLS_OF_A_RUN && wrong == 0) {
            Method method = methods.get(random.nextInt(methods.size()));
            if (random.nextInt(4) == 0) {
                String name = often.get(random.nextInt(often.size()));
                method = methods.stream().filter(some -> some.getName().equals(name)).findFirst().orElseThrow();
            }
            if (seldom.contains(method.getName()) && random.nextInt(3) != 0) {
                continue;
            }
            if (method.equals(append)) {
                String text = someInput();
                for (int i = 0; i < text.length() && calls < CALLS_OF_A_RUN; i++) {
                    call(append, text.charAt(i));
                }
                if (random.nextInt(30) == 0) {
                    call(append, (char) random.nextInt(400));
                }
                call(execute);
                continue;
            }
            Object[] arguments = new Object[method.getParameterCount()];
            for (int i = 0; i < arguments.length; i++) {
                arguments[i] = argument(method.getName(), i);
            }
            call(method, arguments);
            if (method.getName().equals("writeLawn")) {
                for (int i = 0; i <= model.output.length(); i++) {
                    call(ChairMigration.class.getMethod("outputAt", int.class), i);
                }
            }
        }
        return wrong == 0;
    }

    public static void main(String[] args) throws ReflectiveOperationException {
        Checks.limitTime();
        int failed = 0;
        for (int seed = 0; seed < RUNS && failed < 3; seed++) {
            ModelTest test = new ModelTest(seed);
            if (!test.passes()) {
                failed++;
                System.out.println("run " + seed + ":\n" + test.log);
            }
        }
        System.out.println(failed == 0 ? RUNS + " runs of " + CALLS_OF_A_RUN + " calls agree with the model"
            : "the model answers otherwise");
        if (failed != 0) {
            System.exit(1);
        }
    }
}
