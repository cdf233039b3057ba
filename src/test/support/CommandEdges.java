/** The terms of commands: which inputs there are, what each command does, and the offsets of syntax errors. */
final class CommandEdges extends Edges {
    /** One input for each kind of command, with each of its lengths. */
    private static final String[] INPUTS = {"p01", "q01", "c01", "h0=1", "h0=12", "s1", "s12", "f1", "f12", "u1", "u12", "o1",
        "o12", "a1", "a12", "d1", "d12", "m0>1", "m01>2", "g0>1"};
    private static final String LETTERS = "pqhcsfuomgad";
    private static final String DIGITS = "0123456789";

    static void all() {
        part("Terms");
        inputs();
        lawnCommands();
        chairCommands();
        movingCommands();
        otherCommands();
        numbers();
        offsets();
    }

    private static void inputs() {
        says("The input has one or more commands, with \";\" between two of them.", () -> {
            ChairMigration x = new ChairMigration();
            due(1, run(x, "p01"));
            due(2, run(x, "p12;p23"));
            due(3, run(x, "a1;a1;a1"));
            due(20, run(x, "d1;d1;d1;d1;d1;d1;d1;d1;d1;d1;d1;d1;d1;d1;d1;d1;d1;d1;d1;d1"));
            dueSyntaxError(0, "");
            dueSyntaxError(0, ";a1");
            dueSyntaxError(2, "a1a1");
            dueSyntaxError(2, "a1,a1");
            dueSyntaxError(2, "a1 ;a1");
            dueSyntaxError(3, "a1; a1");
            dueSyntaxError(3, "a1;;a1");
            dueSyntaxError(3, "a1;");
        });
    }

    private static void lawnCommands() {
        says("\"p\", a digit and a digit adds a path between two lawns, and \"q\", a digit and a digit removes it.", () -> {
            ChairMigration x = after("p05;p43;p12;q50;q12");
            due(false, x.isPath(0, 5));
            due(true, x.isPath(3, 4));
            due(1, x.pathCount());
        });
        says("\"h\", a digit, \"=\" and a number sets the shade of a lawn.", () -> {
            ChairMigration x = after("h0=0;h1=20;h4=07;h5=9");
            due("0 20 5 5 7 9", shades(x));
        });
    }

    private static void chairCommands() {
        says("\"c\", a digit and a digit adds a chair to a lawn, with this rust.", () -> {
            ChairMigration x = after("c09;c50;c35");
            due("0", herd(x, 0));
            due("1", herd(x, 5));
            due("2", herd(x, 3));
            due(9, x.rustOf(0));
            due(0, x.rustOf(1));
            due(5, x.rustOf(2));
        });
        says("\"s\", \"f\", \"u\" or \"o\" and a number scraps, folds, unfolds or oils a chair.", () -> {
            ChairMigration x = full();
            run(x, "s0;s11;f1;f10;f02;u2;c09;o12");
            due("1 2 3 4 12", herd(x, 0));
            due("10", herd(x, 2));
            due(true, x.isFolded(1));
            due(true, x.isFolded(10));
            due(false, x.isFolded(2));
            due(2, x.foldedCount());
            due(6, x.rustOf(12));
            due(2, x.oil());
            due(2, x.scrappedChairs());
        });
    }

    private static void movingCommands() {
        says("\"m\", a number, \">\" and a digit moves a chair to a lawn.", () -> {
            ChairMigration x = full();
            run(x, "p03;p23;m0>3;m11>3;m01>3");
            due("0 11 1", herd(x, 3));
            due(3, x.moveCount());
        });
        says("\"g\", a digit, \">\" and a digit lets the herd of the first lawn migrate to the second one.", () -> {
            ChairMigration x = after("p05;c00;c00;c50;g0>5");
            due("2 0 1", herd(x, 5));
            run(x, "g5>0");
            due("2 0 1", herd(x, 0));
            due(5, x.moveCount());
        });
    }

    private static void otherCommands() {
        says("\"a\" and a number adds oil.", () -> {
            due(4, after("a1").oil());
            due(13, after("a10").oil());
            due(10, after("a07").oil());
        });
        says("\"d\" and a number lets days pass.", () -> {
            due(1, after("d1").day());
            due(20, after("d20").day());
            due(5, after("d05").day());
        });
    }

    private static void numbers() {
        says("A number has one or two digits.", () -> {
            for (String head : new String[] {"s", "f", "u", "o", "a", "d", "h0="}) {
                int length = head.length();
                dueSyntaxError(length, head);
                dueSyntaxError(length, head + ";");
                dueSyntaxError(length, head + "-");
                dueSyntaxError(length + 2, head + "000");
                dueSyntaxError(length + 2, head + "001");
                dueSyntaxError(length + 2, head + "123");
            }
            dueSyntaxError(1, "m>1");
            dueSyntaxError(3, "m000>1");
            dueSyntaxError(3, "m123>1");
            due(1, run(after("c00;p01"), "m00>1"));
            due(1, run(after("c09"), "h3=00"));
            due(9, after("h3=09").shadeOf(3));
            due(19, after("h3=19").shadeOf(3));
        });
    }

    private static void offsets() {
        says("The offset of a syntax error is the index of the first character that cannot follow the characters ahead of "
            + "it in any input; it is the length of the input if the input ends too early.", () -> {
                for (String input : INPUTS) {
                    tryEachStart(input, 0);
                    tryEachStart("p99;" + input, 4);
                }
                dueSyntaxError(0, "xyz");
                dueSyntaxError(1, "p;p01");
                dueSyntaxError(60, "d11;d11;d11;d11;d11;d11;d11;d11;d11;d11;d11;d11;d11;d11;m12>");
                dueSyntaxError(59, "d11;d11;d11;d11;d11;d11;d11;d11;d11;d11;d11;d11;d11;d11;m12=");
            });
    }

    /** Behind each start of the command in the text: each character that can't follow, and the end of the input. */
    private static void tryEachStart(String text, int command) {
        for (int length = command; length <= text.length(); length++) {
            String start = text.substring(0, length);
            String next = followers(start.substring(command));
            if (!next.contains(";")) {
                dueSyntaxError(length, start);
            }
            for (char character = 32; character <= 126; character++) {
                if (next.indexOf(character) < 0) {
                    dueSyntaxError(length, start + character);
                    dueSyntaxError(length, start + character + text);
                } else if (character != ';' && length == text.length()) {
                    dueSyntaxError(length + 1, start + character + '!');
                }
            }
        }
    }

    /** The characters that can follow the start of a command, ";" if the command can end there. */
    private static String followers(String start) {
        if (start.isEmpty()) {
            return LETTERS;
        }
        String shape = start.substring(0, 1) + start.substring(1).replaceAll("[0-9]", "0");
        switch (shape) {
            case "h0":
                return "=";
            case "g0":
            case "m00":
                return ">";
            case "m0":
                return DIGITS + ">";
            case "p00":
            case "q00":
            case "c00":
            case "h0=00":
            case "m0>0":
            case "m00>0":
            case "g0>0":
            case "s00":
            case "f00":
            case "u00":
            case "o00":
            case "a00":
            case "d00":
                return ";";
            case "h0=0":
            case "s0":
            case "f0":
            case "u0":
            case "o0":
            case "a0":
            case "d0":
                return DIGITS + ";";
            default:
                return DIGITS;
        }
    }
}
