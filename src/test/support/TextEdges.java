/** Promises 52 to 56: the output, the input and its commands. */
final class TextEdges extends Edges {
    private static final String ID_LAWN_OR_NUMBER = "Throws `IllegalStateException` if the first command that fails has an "
        + "id, a lawn or a number that its method does not accept";

    static void all() {
        writeLawn();
        writtenLengths();
        outputAt();
        appendInput();
        execute();
        syntaxErrorsOfExecute();
        argumentsThatCommandsDoNotAccept();
        rejectionsOfExecute();
        syntaxErrorOffset();
    }

    private static void writeLawn() {
        part("writeLawn");
        says("Writes a lawn to the output, in place of the earlier output: its index, \":\", its shade, and for each chair "
            + "of its herd a space, the id, \"r\", the rust, and \"f\" if the chair is folded.", () -> {
                ChairMigration x = after("p13;c30;c11;c39;f0;h3=0;c30", "f2;m1>3");
                dueOutput(x, 3, "3:0 0r0f 2r9f 3r0 1r1");
                dueOutput(x, 1, "1:5");
                dueOutput(x, 3, "3:0 0r0f 2r9f 3r0 1r1");
                x.moveChair(1, 1);
                dueOutput(x, 1, "1:5 1r1");
                x.passDays(1);
                due("1:5 1r1", output(x));
                dueOutput(x, 3, "3:3 0r0f 2r9f 3r1");
            });
        says("An example is \"2:17 0r3 4r9f\".", () -> {
            ChairMigration x = after("h2=17;c23;c00;c00;c00;c29;f4");
            dueOutput(x, 2, "2:17 0r3 4r9f");
        });
        says("`lawn`: the index of a lawn, 0 to 5", () -> {
            ChairMigration x = after("h1=0;h2=9;h3=10;h4=19;h5=20");
            dueOutput(x, 0, "0:5");
            dueOutput(x, 1, "1:0");
            dueOutput(x, 2, "2:9");
            dueOutput(x, 3, "3:10");
            dueOutput(x, 4, "4:19");
            dueOutput(x, 5, "5:20");
        });
        says("Throws `IndexOutOfBoundsException` if there is no such lawn", () -> {
            ChairMigration x = new ChairMigration();
            noLawn(no -> x.writeLawn(no));
            due("", output(x));
            x.writeLawn(2);
            noLawn(no -> x.writeLawn(no));
            due("2:5", output(x));
        });
    }

    private static void writtenLengths() {
        says("Returns the length of the output.", () -> {
            ChairMigration x = after("h0=0;h1=20;c20;c20;c20;c20;c20");
            due(3, x.writeLawn(0));
            due(4, x.writeLawn(1));
            due(23, x.writeLawn(2));
            run(x, "f0;f1;f2;f3;f4");
            due(28, x.writeLawn(2));
            due(3, x.writeLawn(3));
            for (int chair = 5; chair < 100; chair++) {
                x.scrapChair(x.addChair(3, 0));
            }
            x.addChair(3, 7);
            dueOutput(x, 3, "3:5 100r7");
            x.scrapChair(100);
            run(x, "h3=20;c39;c39;c39;c39;c39");
            for (int chair = 101; chair <= 105; chair++) {
                x.fold(chair);
            }
            due(39, x.writeLawn(3));
            due("3:20 101r9f 102r9f 103r9f 104r9f 105r9f", output(x));
        });
    }

    private static void outputAt() {
        part("outputAt");
        says("Returns a character of the output.", () -> {
            ChairMigration x = after("c46;f0");
            x.writeLawn(4);
            due('r', x.outputAt(5));
            x.scrapChair(0);
            due('r', x.outputAt(5));
        });
        says("The output is empty at first.", () -> {
            ChairMigration x = new ChairMigration();
            dueThrow(NO_INDEX, () -> x.outputAt(0));
            dueThrow(NO_INDEX, () -> x.outputAt(1));
        });
        says("`index`: the index, from 0", () -> {
            ChairMigration x = new ChairMigration();
            x.writeLawn(3);
            due('3', x.outputAt(0));
            due(':', x.outputAt(1));
            due('5', x.outputAt(2));
        });
        says("Returns the character.", () -> {
            ChairMigration x = after("h1=10;c19;f0");
            x.writeLawn(1);
            char[] want = {'1', ':', '1', '0', ' ', '0', 'r', '9', 'f'};
            for (int index = 0; index < want.length; index++) {
                due(want[index], x.outputAt(index));
            }
        });
        says("Throws `IndexOutOfBoundsException` if there is no character at this index", () -> {
            ChairMigration x = after("h1=20");
            x.writeLawn(1);
            due('0', x.outputAt(3));
            dueThrow(NO_INDEX, () -> x.outputAt(4));
            x.writeLawn(0);
            due('5', x.outputAt(2));
            for (int no : new int[] {-1, -2, 3, 4, Integer.MIN_VALUE, Integer.MAX_VALUE}) {
                dueThrow(NO_INDEX, () -> x.outputAt(no));
            }
        });
    }

    private static void appendInput() {
        part("appendInput");
        says("Appends a character to the input.", () -> {
            ChairMigration x = new ChairMigration();
            x.appendInput('h');
            x.appendInput('3');
            x.appendInput('=');
            x.appendInput('1');
            x.appendInput('2');
            x.execute();
            due(12, x.shadeOf(3));
        });
        says("`character`: the character, with a code from 32 to 126", () -> {
            ChairMigration x = new ChairMigration();
            for (int code = 32; code <= 79; code++) {
                due(code - 31, x.appendInput((char) code));
            }
            dueThrow(BAD_ARGUMENT, () -> x.execute());
            for (int code = 80; code <= 126; code++) {
                due(code - 79, x.appendInput((char) code));
            }
        });
        says("Returns the length of the input after the call.", () -> {
            ChairMigration x = new ChairMigration();
            for (int length = 1; length <= 60; length++) {
                due(length, x.appendInput(' '));
            }
            dueThrow(BAD_ARGUMENT, () -> x.execute());
            due(1, x.appendInput(' '));
        });
        says("Throws `IllegalArgumentException` if the code is out of range", () -> {
            ChairMigration x = new ChairMigration();
            for (char no : new char[] {0, 31, 127, 128, 30, 32 + 256, 65535}) {
                dueThrow(BAD_ARGUMENT, () -> x.appendInput(no));
            }
            due(1, x.appendInput(' '));
        });
        says("Throws `IllegalStateException` if the input has 60 characters", () -> {
            ChairMigration x = new ChairMigration();
            type(x, "d1;d1;d1;d1;d1;d1;d1;d1;d1;d1;d1;d1;d1;d1;d1;d1;d1;d1;d1;d1");
            due(60, x.appendInput('2'));
            dueThrow(BAD_STATE, () -> x.appendInput('3'));
            dueThrow(BAD_STATE, () -> x.appendInput(';'));
            due(20, x.execute());
            due(31, x.day());
            due(1, x.appendInput('d'));
        });
    }

    private static void execute() {
        part("execute");
        says("Executes the commands of the input, all of them or none.", () -> {
            ChairMigration x = after("p01;h2=3;c05;f0;u0;o0;m0>1;g1>0;a9;d3;q01;c44;s1");
            due("11 14 12 14 14 14", shades(x));
            due("0", herd(x, 0));
            due(2, x.rustOf(0));
            due(11, x.oil());
            due(2, x.moveCount());
            due(1, x.scrappedChairs());
            due(0, x.pathCount());
            String before = data(x);
            for (String failing : new String[] {"p12", "c60", "d0", "x", "o0;o0"}) {
                type(x, "p12;h0=9;c11;f2;a2;d1;" + failing + ";p23");
                due(failing.equals("p12") || failing.startsWith("o") ? REJECTED : failing.equals("x") ? BAD_ARGUMENT
                    : BAD_STATE, answerOf(() -> x.execute()));
            }
            due(before, data(x));
        });
        says("The input is empty after the call, also if an exception is thrown.", () -> {
            ChairMigration x = new ChairMigration();
            String[] inputs = {"p01", "p01", "p00", "p0", "a1;a1;;"};
            Object[] want = {1, REJECTED, BAD_STATE, BAD_ARGUMENT, BAD_ARGUMENT};
            for (int number = 0; number < inputs.length; number++) {
                type(x, inputs[number]);
                due(want[number], answerOf(() -> x.execute()));
                due(1, x.appendInput('a'));
                due(2, x.appendInput('1'));
                due(1, x.execute());
                due(4 + number, x.oil());
            }
        });
        says("Returns the number of commands.", () -> {
            ChairMigration x = new ChairMigration();
            StringBuilder commands = new StringBuilder("d1");
            for (int count = 1; count <= 8; count++) {
                due(count, run(x, commands.toString()));
                commands.append(";d1");
            }
            due(20, run(x, "d1;d1;d1;d1;d1;d1;d1;d1;d1;d1;d1;d1;d1;d1;d1;d1;d1;d1;d1;d1"));
            due(56, x.day());
        });
    }

    private static void syntaxErrorsOfExecute() {
        says("Throws `IllegalArgumentException` if the input has a syntax error; syntaxErrorOffset returns its offset", () -> {
            dueSyntaxError(0, "");
            dueSyntaxError(0, ";");
            dueSyntaxError(3, "p01p12");
            dueSyntaxError(4, "p01;");
            dueSyntaxError(4, "p01;;p12");
            // The error counts, not what the commands ahead of it would do.
            dueSyntaxError(8, "p00;s99;x");
            dueSyntaxError(9, "p01;p01;p");
        });
    }

    private static void argumentsThatCommandsDoNotAccept() {
        says(ID_LAWN_OR_NUMBER, () -> {
            String[] accepted = {"p05", "p50", "q12", "q21", "h0=0", "h5=20", "h5=00", "c00", "c59", "s0", "s11", "f0", "f11",
                "u3", "u03", "o0", "o11", "m0>1", "m11>1", "g1>2", "g2>1", "a1", "a10", "a01", "d1", "d20", "d01"};
            for (String command : accepted) {
                due(1, run(waiting(), command));
            }
            String[] refused = {"p06", "p60", "p00", "p55", "q16", "q61", "q22", "h6=0", "h9=20", "h0=21", "h0=99", "c60",
                "c99", "s10", "s12", "f10", "f12", "u10", "u99", "o10", "o12", "m10>1", "m12>1", "m0>6", "m99>9", "g1>6",
                "g6>1", "g9>9", "a0", "a00", "a11", "a99", "d0", "d00", "d21", "d99"};
            for (String command : refused) {
                ChairMigration x = waiting();
                type(x, command);
                dueThrow(BAD_STATE, () -> x.execute());
                type(x, "a1;" + command + ";p12");
                dueThrow(BAD_STATE, () -> x.execute());
                dueThrow(NO_ELEMENT, () -> x.rejectionReason());
                dueThrow(NO_ELEMENT, () -> x.syntaxErrorOffset());
                due(3, x.oil());
            }
        });
    }

    /** A garden for one command of each kind: the path 1-2, chairs on both, chair 3 folded, no chair 10. */
    private static ChairMigration waiting() {
        return after("p12;p01;c01;c10;c20;c30;f3;c40;c40;c40;c40;c50;c50;c50;s10", "c25");
    }

    private static void rejectionsOfExecute() {
        says("Throws `UnsupportedOperationException` if the call is rejected with the reason COMMAND_REJECTED", () -> {
            ChairMigration x = after("p01");
            dueCause(x, 0, ChairMigration.PATH_EXISTS, "p01");
            dueCause(x, 0, ChairMigration.PATH_EXISTS, "p10;p66");
            dueCause(x, 1, ChairMigration.NO_PATH, "a1;q02;p01");
            type(x, "p66;p01");
            dueThrow(BAD_STATE, () -> x.execute());
            due(ChairMigration.NO_PATH, x.causeReason());
            due(3, x.oil());
        });
    }

    private static void syntaxErrorOffset() {
        part("syntaxErrorOffset");
        says("Returns the offset of the latest syntax error.", () -> {
            ChairMigration x = new ChairMigration();
            dueThrow(BAD_ARGUMENT, () -> run(x, "a1;x"));
            due(3, x.syntaxErrorOffset());
            dueThrow(BAD_ARGUMENT, () -> run(x, "a"));
            due(1, x.syntaxErrorOffset());
            run(x, "p01");
            dueThrow(REJECTED, () -> run(x, "p01"));
            dueThrow(BAD_STATE, () -> run(x, "p00"));
            x.undo();
            due(1, x.syntaxErrorOffset());
        });
        says("Returns the offset.", () -> {
            ChairMigration x = new ChairMigration();
            dueThrow(BAD_ARGUMENT, () -> x.execute());
            due(0, x.syntaxErrorOffset());
            type(x, "d1;d1;d1;d1;d1;d1;d1;d1;d1;d1;d1;d1;d1;d1;d1;d1;d1;d1;d1;d1;");
            dueThrow(BAD_ARGUMENT, () -> x.execute());
            due(60, x.syntaxErrorOffset());
        });
        says("Throws `NoSuchElementException` if there was no syntax error", () -> {
            ChairMigration x = new ChairMigration();
            dueThrow(NO_ELEMENT, () -> x.syntaxErrorOffset());
            run(x, "p01");
            dueThrow(REJECTED, () -> run(x, "p01"));
            dueThrow(BAD_STATE, () -> run(x, "p00"));
            dueThrow(BAD_ARGUMENT, () -> x.appendInput((char) 31));
            x.appendInput('x');
            dueThrow(NO_ELEMENT, () -> x.syntaxErrorOffset());
        });
    }
}
