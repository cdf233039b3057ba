import java.util.NoSuchElementException;
import java.util.concurrent.Callable;

/** What the tests share: they compare answers with those that are due, and type commands. */
abstract class Checks {
    static final Class<?> NO_INDEX = IndexOutOfBoundsException.class;
    static final Class<?> BAD_ARGUMENT = IllegalArgumentException.class;
    static final Class<?> REJECTED = UnsupportedOperationException.class;
    static final Class<?> NO_ELEMENT = NoSuchElementException.class;
    static final Class<?> BAD_STATE = IllegalStateException.class;
    static final Class<?> NO_NUMBER = ArithmeticException.class;
    static final int[] NO_LAWNS = {-1, 6, Integer.MIN_VALUE, Integer.MAX_VALUE};
    static final int[] NO_CHAIRS = {-1, 12, 99, Integer.MIN_VALUE, Integer.MAX_VALUE};

    private static final int MINUTES_OF_A_TEST = 5;

    private static int wrong = 0;
    private static int checks = 0;
    private static volatile String topic = "";

    /** A call that doesn't end shall fail the test, not hold it up. */
    static void limitTime() {
        Thread watch = new Thread(() -> {
            try {
                Thread.sleep(MINUTES_OF_A_TEST * 60_000L);
            } catch (InterruptedException e) {
                return;
            }
            System.out.println("stopped after " + MINUTES_OF_A_TEST + " minutes: " + topic);
            Runtime.getRuntime().halt(1);
        });
        watch.setDaemon(true);
        watch.start();
    }

    static void fault(String text) {
        wrong++;
        System.out.println(topic + ": " + text);
    }

    static void due(Object want, Object got) {
        checks++;
        if (!want.equals(got)) {
            fault(place() + ": answered " + got + ", due is " + want);
        }
    }

    /** The line of the test from which the comparison was asked for. */
    private static String place() {
        for (StackTraceElement frame : new Throwable().getStackTrace()) {
            if (!frame.getClassName().equals("Checks") && !frame.getClassName().equals("Edges")) {
                return frame.getClassName() + " line " + frame.getLineNumber();
            }
        }
        return "somewhere";
    }

    /** The very class counts, as the document names it: the machine's own exceptions are below it. */
    static Object answerOf(Callable<?> call) {
        try {
            return call.call();
        } catch (Exception e) {
            return e.getClass();
        }
    }

    static void dueThrow(Class<?> want, Callable<?> call) {
        due(want, answerOf(call));
    }

    static void dueRejection(ChairMigration x, int reason, int detail, Callable<?> call) {
        dueThrow(REJECTED, call);
        due(reason, x.rejectionReason());
        due(detail, x.rejectionDetail());
        dueThrow(NO_ELEMENT, () -> x.causeReason());
    }

    static void dueCause(ChairMigration x, int number, int cause, String commands) {
        type(x, commands);
        dueThrow(REJECTED, () -> x.execute());
        due(11, x.rejectionReason());
        due(number, x.rejectionDetail());
        due(cause, x.causeReason());
    }

    static void dueSyntaxError(int offset, String commands) {
        ChairMigration x = new ChairMigration();
        type(x, commands);
        dueThrow(BAD_ARGUMENT, () -> x.execute());
        due(offset, answerOf(() -> x.syntaxErrorOffset()));
        due(1, x.appendInput('p'));
    }

    static void dueOutput(ChairMigration x, int lawn, String want) {
        due(want.length(), x.writeLawn(lawn));
        due(want, output(x));
    }

    /** The whole output: up to the first index at which there is no character. */
    static String output(ChairMigration x) {
        StringBuilder text = new StringBuilder();
        for (Object got = answerOf(() -> x.outputAt(0)); got instanceof Character;) {
            text.append(got);
            got = answerOf(() -> x.outputAt(text.length()));
        }
        return text.toString();
    }

    static void type(ChairMigration x, String text) {
        for (int i = 0; i < text.length(); i++) {
            x.appendInput(text.charAt(i));
        }
    }

    static int run(ChairMigration x, String commands) {
        type(x, commands);
        return x.execute();
    }

    static ChairMigration after(String... commands) {
        ChairMigration x = new ChairMigration();
        for (String some : commands) {
            run(x, some);
        }
        return x;
    }

    /** Everything that undo and the snapshot cover, as one text. */
    static String data(ChairMigration x) {
        StringBuilder text = new StringBuilder();
        for (int lawn = 0; lawn < 6; lawn++) {
            text.append(lawn).append(':').append(x.shadeOf(lawn));
            for (int position = 0; position < x.herdSize(lawn); position++) {
                int chair = x.chairAt(lawn, position);
                text.append(' ').append(chair).append('r').append(x.rustOf(chair)).append('a').append(x.ageOf(chair));
                text.append(x.isFolded(chair)).append(x.lawnOf(chair)).append(x.positionOf(chair));
            }
            for (int other = 0; other < 6; other++) {
                text.append(x.isPath(lawn, other) ? '+' : '-');
            }
        }
        int[] totals = {x.pathCount(), x.chairCount(), x.foldedCount(), x.oil(), x.totalRust(), x.day(), x.season(),
            x.collapsedChairs(), x.scrappedChairs(), x.moveCount(), x.grazedShade()};
        for (int total : totals) {
            text.append(' ').append(total);
        }
        return text.toString();
    }

    static void test(String name, Runnable body) {
        topic = name;
        try {
            body.run();
        } catch (RuntimeException e) {
            fault(e.toString());
            e.printStackTrace(System.out);
        }
    }

    static void report() {
        System.out.println(checks + " answers compared, " + wrong + " wrong");
        if (wrong != 0) {
            System.exit(1);
        }
    }
}
