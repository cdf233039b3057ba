import java.util.LinkedHashSet;
import java.util.Map;
import java.util.Set;

/**
 * A test for each sentence of the document. A test quotes its sentence, and the whole run compares the quoted sentences
 * with the document: each of them must be there, and each of the document's must be quoted.
 */
abstract class Edges extends Checks {
    private static final Map<String, Set<String>> DOCUMENT = new Document().sentences();
    private static final Set<String> QUOTED = new LinkedHashSet<>();
    private static String part = "";

    /** A call with one argument. */
    interface Call {
        Object of(int argument);
    }

    /** A call of a garden that is made by the test. */
    interface CallOf {
        Object of(ChairMigration x);
    }

    /** From here on the sentences are those of this part. */
    static void part(String name) {
        part = name;
    }

    static void says(String sentence, Runnable body) {
        test(part + ": " + sentence, () -> {
            if (!DOCUMENT.containsKey(part) || !DOCUMENT.get(part).contains(sentence)) {
                fault("the document doesn't say so");
            }
            QUOTED.add(part + ": " + sentence);
            body.run();
        });
    }

    static void demandEverySentence() {
        test("sentences without a test", () -> DOCUMENT.forEach((name, sentences) -> {
            for (String sentence : sentences) {
                if (!QUOTED.contains(name + ": " + sentence)) {
                    fault(name + ": " + sentence);
                }
            }
        }));
    }

    /** The answers for the lawns 0 to 5, one after the other. */
    static void eachLawn(Call call, Object... want) {
        for (int lawn = 0; lawn < 6; lawn++) {
            due(want[lawn], call.of(lawn));
        }
    }

    static void noLawn(Call call) {
        for (int no : NO_LAWNS) {
            dueThrow(NO_INDEX, () -> call.of(no));
        }
    }

    /** For calls of withGoneChairs(): ids that were scrapped, collapsed, undone, or never given. */
    static void noChair(Call call) {
        for (int no : new int[] {1, 2, 4, 5, 12, 99, -1, Integer.MIN_VALUE, Integer.MAX_VALUE}) {
            dueThrow(NO_INDEX, () -> call.of(no));
        }
    }

    /** The chairs 0, on lawn 0 with rust 3, and 3, on lawn 2 with rust 2; there is a path between these lawns. */
    static ChairMigration withGoneChairs() {
        ChairMigration x = after("h1=0;c03;c04;c19;c22;s1;d1;p02");
        x.addChair(4, 0);
        x.undo();
        return x;
    }

    static void outOfRange(Call call, int... numbers) {
        for (int number : numbers) {
            dueThrow(BAD_ARGUMENT, () -> call.of(number));
        }
        dueThrow(BAD_ARGUMENT, () -> call.of(Integer.MIN_VALUE));
        dueThrow(BAD_ARGUMENT, () -> call.of(Integer.MAX_VALUE));
    }

    static void noPosition(Call call, int... numbers) {
        for (int number : numbers) {
            dueThrow(NO_ELEMENT, () -> call.of(number));
        }
        dueThrow(NO_ELEMENT, () -> call.of(Integer.MIN_VALUE));
        dueThrow(NO_ELEMENT, () -> call.of(Integer.MAX_VALUE));
    }

    /** The ids of a herd, as one text. */
    static String herd(ChairMigration x, int lawn) {
        StringBuilder ids = new StringBuilder();
        for (int position = 0; position < x.herdSize(lawn); position++) {
            ids.append(position == 0 ? "" : " ").append(x.chairAt(lawn, position));
        }
        return ids.toString();
    }

    /** The shade of all lawns, as one text. */
    static String shades(ChairMigration x) {
        StringBuilder shades = new StringBuilder();
        for (int lawn = 0; lawn < 6; lawn++) {
            shades.append(lawn == 0 ? "" : " ").append(x.shadeOf(lawn));
        }
        return shades.toString();
    }

    /** The route from one lawn to another one, a digit for each lawn. */
    static String route(ChairMigration x, int first, int second) {
        StringBuilder lawns = new StringBuilder();
        for (int position = 0; position <= x.distance(first, second); position++) {
            lawns.append(x.routeAt(first, second, position));
        }
        return lawns.toString();
    }

    static ChairMigration chain() {
        return after("p01;p12;p23;p34;p45");
    }

    /** Twelve chairs, as many as there may be: 5 on lawn 0, 5 on lawn 1 and 2 on lawn 2. */
    static ChairMigration full() {
        return after("c00;c00;c00;c00;c00;c10;c10;c10;c10;c10;c20;c20");
    }

    /** As many chairs as there may be, too: the first one on lawn 0 has rust 9, the last one on lawn 2 rust 8. */
    static ChairMigration rustyEnds() {
        return after("c09;c00;c00;c00;c00;c10;c10;c10;c10;c10;c20;c28");
    }

    static void pass(ChairMigration x, int days) {
        for (int passed = 0; passed < days; passed++) {
            x.passDays(1);
        }
    }
}
