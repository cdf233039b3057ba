import java.util.ArrayList;
import java.util.List;
import java.util.concurrent.Callable;

/**
 * What an object answers to every call that asks, then to those that bring back earlier data. Two objects with the same
 * answers are taken for equal. The object that was asked is of no use afterwards.
 */
final class Answers {
    /** Leaves room for the calls ahead, as an object answers 512 calls. */
    private static final int MOST_CALLS = 400;

    private final ChairMigration x;
    private final List<String> told = new ArrayList<>();
    private int calls = 0;

    private Answers(ChairMigration x) {
        this.x = x;
    }

    /** With or without the answers about the latest rejection and about the latest syntax error. */
    static List<String> of(ChairMigration x, boolean rejection, boolean syntaxError) {
        Answers answers = new Answers(x);
        if (rejection) {
            answers.tellRejection();
        }
        if (syntaxError) {
            answers.tell("syntaxErrorOffset", () -> x.syntaxErrorOffset());
        }
        answers.tellLawns();
        answers.tellChairs();
        answers.tellTotals();
        answers.tellText();
        answers.tellPast();
        if (answers.calls > MOST_CALLS) {
            throw new IllegalStateException("asked too often: " + answers.calls);
        }
        return answers.told;
    }

    static List<String> of(ChairMigration x) {
        return of(x, true, true);
    }

    private Object tell(String call, Callable<?> asked) {
        calls++;
        Object answer = Checks.answerOf(asked);
        told.add(call + " " + answer);
        return answer;
    }

    private void tellRejection() {
        tell("rejectionReason", () -> x.rejectionReason());
        tell("rejectionDetail", () -> x.rejectionDetail());
        tell("causeReason", () -> x.causeReason());
    }

    private void tellLawns() {
        tell("pathCount", () -> x.pathCount());
        for (int number = 0; number < 6; number++) {
            int lawn = number;
            for (int next = lawn + 1; next < 6; next++) {
                int other = next;
                tell("isPath " + lawn + other, () -> x.isPath(lawn, other));
            }
            tell("distance 5" + lawn, () -> x.distance(5, lawn));
            tell("distanceByImprovement " + lawn + "0", () -> x.distanceByImprovement(lawn, 0));
            tell("routeAt 0" + lawn, () -> x.routeAt(0, lawn, 1));
            tell("reachableLawns " + lawn, () -> x.reachableLawns(lawn));
            tell("shadeOf " + lawn, () -> x.shadeOf(lawn));
            tell("bestNeighbour " + lawn, () -> x.bestNeighbour(lawn));
            tell("lawnByShade " + lawn, () -> x.lawnByShade(lawn));
            tellHerd(lawn);
        }
    }

    private void tellHerd(int lawn) {
        tell("herdSize " + lawn, () -> x.herdSize(lawn));
        tell("herdSizeByChairs " + lawn, () -> x.herdSizeByChairs(lawn));
        tell("elderOf " + lawn, () -> x.elderOf(lawn));
        tell("hungryChairs " + lawn, () -> x.hungryChairs(lawn));
        for (int number = 0; number < x.herdSize(lawn); number++) {
            int position = number;
            tell("chairAt " + lawn + position, () -> x.chairAt(lawn, position));
        }
    }

    private void tellChairs() {
        for (int number = 0; number < 16; number++) {
            int chair = number;
            if (tell("exists " + chair, () -> x.exists(chair)).equals(true)) {
                tell("lawnOf " + chair, () -> x.lawnOf(chair));
                tell("rustOf " + chair, () -> x.rustOf(chair));
                tell("isFolded " + chair, () -> x.isFolded(chair));
                tell("ageOf " + chair, () -> x.ageOf(chair));
                tell("positionOf " + chair, () -> x.positionOf(chair));
                tell("collapseDay " + chair, () -> x.collapseDay(chair));
            }
        }
        for (int number = 0; number < x.chairCount(); number++) {
            int position = number;
            tell("chairByRust " + position, () -> x.chairByRust(position));
        }
    }

    private void tellTotals() {
        tell("day", () -> x.day());
        tell("season", () -> x.season());
        tell("daysUntil 3", () -> x.daysUntil(3));
        tell("wouldCollapse 20", () -> x.wouldCollapse(20));
        tell("chairCount", () -> x.chairCount());
        tell("foldedCount", () -> x.foldedCount());
        tell("oil", () -> x.oil());
        tell("totalRust", () -> x.totalRust());
        tell("totalRustByHerds", () -> x.totalRustByHerds());
        tell("collapsedChairs", () -> x.collapsedChairs());
        tell("scrappedChairs", () -> x.scrappedChairs());
        tell("moveCount", () -> x.moveCount());
        tell("grazedShade", () -> x.grazedShade());
        tell("meanRust", () -> x.meanRust());
        tell("foldedShare", () -> x.foldedShare());
        tell("isConsistent", () -> x.isConsistent());
    }

    private void tellText() {
        String output = Checks.output(x);
        calls += output.length();
        told.add("output " + output);
        tell("appendInput", () -> x.appendInput(';'));
    }

    /** The id that is given next, what each undo brings back, and what the snapshot holds. */
    private void tellPast() {
        tell("addChair", () -> x.addChair(5, 0));
        boolean undone = true;
        for (int times = 0; undone && times <= 9; times++) {
            undone = tell("undo", () -> x.undo()) instanceof Integer;
            tell("moment", () -> moment());
        }
        tell("restoreSnapshot", () -> x.restoreSnapshot());
        tell("moment", () -> moment());
        tell("addChair", () -> x.addChair(5, 0));
    }

    private String moment() {
        calls += 7;
        return x.pathCount() + " " + x.chairCount() + " " + x.foldedCount() + " " + x.totalRust() + " " + x.oil() + " "
            + x.day() + " " + x.moveCount() + " " + x.writeLawn(1);
    }
}
