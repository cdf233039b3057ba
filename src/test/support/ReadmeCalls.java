import java.util.concurrent.Callable;

/** What the program that ReadmeTest makes of the examples of README.md stands on. */
abstract class ReadmeCalls {
    /** In README.md, of the call that is made. */
    static int line;

    /** A call of a garden that is made by the test. */
    interface CallOf {
        Object of(ChairMigration garden);
    }

    private static String place(String text) {
        return "README.md line " + line + ": " + text;
    }

    /** Answers what is due, so that the examples behind it can go on even if the call answers something else. */
    static <T> T answers(T want, Callable<T> call) {
        Checks.test(place("answer"), () -> Checks.due(want, Checks.answerOf(call)));
        return want;
    }

    static void throwing(Class<?> want, Callable<?> call) {
        Checks.test(place("exception"), () -> Checks.dueThrow(want, call));
    }

    /** A command and a call, each of them in a garden in which all commands of the table may be executed. */
    static void same(String command, CallOf call) {
        Checks.test(place(command), () -> {
            ChairMigration commanded = Checks.after("p01;c03;c05;f1;h2=9");
            ChairMigration called = Checks.after("p01;c03;c05;f1;h2=9");
            String before = Checks.data(called);
            Checks.due(1, Checks.run(commanded, command));
            call.of(called);
            Checks.due(Checks.data(called), Checks.data(commanded));
            Checks.due(false, before.equals(Checks.data(called)));
        });
    }
}
