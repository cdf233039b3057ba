/** The constants: what each reason applies to, and its detail; each also as the cause of a rejected command. */
final class ReasonEdges extends Edges {
    static void all() {
        pathExists();
        noPath();
        chairLimit();
        lawnFull();
        folded();
        notFolded();
        noHerd();
        noRust();
        noOil();
        oilLimit();
        commandRejected();
    }

    private static void constant(String name, int value, int constant) {
        part(name);
        says(name + " = " + value, () -> due(value, constant));
    }

    private static void dueDetail(ChairMigration x, int detail, CallOf call) {
        dueThrow(REJECTED, () -> call.of(x));
        due(detail, x.rejectionDetail());
    }

    private static void pathExists() {
        constant("PATH_EXISTS", 1, ChairMigration.PATH_EXISTS);
        says("Reason: there is a path between both lawns.", () -> {
            ChairMigration x = new ChairMigration();
            due(1, x.addPath(0, 5));
            dueRejection(x, ChairMigration.PATH_EXISTS, 1, () -> x.addPath(5, 0));
            dueCause(x, 0, ChairMigration.PATH_EXISTS, "p05");
            dueCause(x, 1, ChairMigration.PATH_EXISTS, "p12;p21");
        });
        says("The detail is the number of paths.", () -> {
            ChairMigration x = new ChairMigration();
            int paths = 0;
            for (int first = 0; first < 6; first++) {
                for (int second = 0; second < first; second++) {
                    int one = first;
                    int other = second;
                    x.addPath(one, other);
                    paths++;
                    dueDetail(x, paths, some -> some.addPath(other, one));
                }
            }
        });
    }

    private static void noPath() {
        constant("NO_PATH", 2, ChairMigration.NO_PATH);
        says("Reason: there is no path between both lawns, which may be the same lawn.", () -> {
            ChairMigration x = after("p01;p12;c00");
            dueRejection(x, ChairMigration.NO_PATH, 2, () -> x.removePath(2, 0));
            dueRejection(x, ChairMigration.NO_PATH, 2, () -> x.moveChair(0, 2));
            dueRejection(x, ChairMigration.NO_PATH, 0, () -> x.moveChair(0, 0));
            dueRejection(x, ChairMigration.NO_PATH, 2, () -> x.migrate(0, 2));
            dueRejection(x, ChairMigration.NO_PATH, 0, () -> x.migrate(0, 0));
            dueCause(x, 0, ChairMigration.NO_PATH, "q02");
            dueCause(x, 0, ChairMigration.NO_PATH, "m0>0");
            dueCause(x, 0, ChairMigration.NO_PATH, "g0>0");
            due(0, x.moveCount());
        });
        says("The detail is their distance, or -1 if one cannot be reached from the other one.", () -> {
            ChairMigration x = after("p01;p12;p23;p34;c00");
            int[] want = {0, 1, 2, 3, 4, -1};
            for (int number = 2; number < 6; number++) {
                int lawn = number;
                dueDetail(x, want[lawn], some -> some.removePath(0, lawn));
                dueDetail(x, want[lawn], some -> some.moveChair(0, lawn));
                dueDetail(x, want[lawn], some -> some.migrate(0, lawn));
                dueDetail(x, want[lawn], some -> some.migrate(lawn, 0));
            }
            x.addPath(4, 5);
            dueDetail(x, 5, some -> some.migrate(0, 5));
            dueDetail(x, 0, some -> some.migrate(5, 5));
            dueDetail(x, 0, some -> some.moveChair(0, 0));
        });
    }

    private static void chairLimit() {
        constant("CHAIR_LIMIT", 3, ChairMigration.CHAIR_LIMIT);
        says("Reason: there are 12 chairs.", () -> {
            ChairMigration x = full();
            dueRejection(x, ChairMigration.CHAIR_LIMIT, 12, () -> x.addChair(2, 0));
            dueCause(x, 0, ChairMigration.CHAIR_LIMIT, "c20");
            x.scrapChair(0);
            due(12, x.addChair(2, 0));
            dueRejection(x, ChairMigration.CHAIR_LIMIT, 12, () -> x.addChair(2, 0));
            run(x, "f1;s1");
            due(13, x.addChair(0, 0));
        });
        says("The detail is 12.", () -> {
            ChairMigration x = full();
            run(x, "s0;c40;f1");
            dueDetail(x, 12, some -> some.addChair(4, 0));
            dueDetail(x, 12, some -> some.addChair(1, 9));
        });
    }

    private static void lawnFull() {
        constant("LAWN_FULL", 4, ChairMigration.LAWN_FULL);
        says("Reason: the lawn to which a chair comes has no free place.", () -> {
            ChairMigration x = after("p01;c00;c00;c00;c00;f0;f1;c10");
            due(0, x.moveChair(3, 1));
            due(1, x.moveChair(4, 0));
            due(5, x.addChair(0, 0));
            dueRejection(x, ChairMigration.LAWN_FULL, 0, () -> x.addChair(0, 0));
            dueRejection(x, ChairMigration.LAWN_FULL, 0, () -> x.moveChair(3, 0));
            dueRejection(x, ChairMigration.LAWN_FULL, 0, () -> x.migrate(1, 0));
            dueCause(x, 0, ChairMigration.LAWN_FULL, "c00");
            dueCause(x, 0, ChairMigration.LAWN_FULL, "m3>0");
            dueCause(x, 0, ChairMigration.LAWN_FULL, "g1>0");
            x.scrapChair(0);
            due(1, x.migrate(1, 0));
        });
        says("The detail is the index of this lawn.", () -> {
            ChairMigration x = after("p01;p05;c00;c50;c50;c50;c50;c50", "p15;c10;c10;c10;c10;c10");
            dueDetail(x, 5, some -> some.addChair(5, 0));
            dueDetail(x, 5, some -> some.moveChair(0, 5));
            dueDetail(x, 5, some -> some.migrate(0, 5));
            dueDetail(x, 1, some -> some.addChair(1, 0));
            dueDetail(x, 1, some -> some.moveChair(0, 1));
            dueDetail(x, 1, some -> some.migrate(5, 1));
        });
    }

    private static void folded() {
        constant("FOLDED", 5, ChairMigration.FOLDED);
        says("Reason: the chair is folded.", () -> {
            ChairMigration x = after("p01;c00;f0");
            dueRejection(x, ChairMigration.FOLDED, 0, () -> x.fold(0));
            dueRejection(x, ChairMigration.FOLDED, 0, () -> x.moveChair(0, 1));
            dueCause(x, 0, ChairMigration.FOLDED, "f0");
            dueCause(x, 1, ChairMigration.FOLDED, "p12;m0>1");
            x.unfold(0);
            due(0, x.moveChair(0, 1));
            due(1, x.fold(0));
        });
        says("The detail is the id of the chair.", () -> {
            ChairMigration x = full();
            run(x, "s0;c00;f12;f11;f5");
            dueDetail(x, 12, some -> some.fold(12));
            dueDetail(x, 11, some -> some.fold(11));
            dueDetail(x, 5, some -> some.moveChair(5, 2));
        });
    }

    private static void notFolded() {
        constant("NOT_FOLDED", 6, ChairMigration.NOT_FOLDED);
        says("Reason: the chair is not folded.", () -> {
            ChairMigration x = after("c00");
            dueRejection(x, ChairMigration.NOT_FOLDED, 0, () -> x.unfold(0));
            dueCause(x, 0, ChairMigration.NOT_FOLDED, "u0");
            dueCause(x, 2, ChairMigration.NOT_FOLDED, "f0;u0;u0");
            x.fold(0);
            due(0, x.unfold(0));
        });
        says("The detail is the id of the chair.", () -> {
            ChairMigration x = full();
            run(x, "s0;c00");
            dueDetail(x, 12, some -> some.unfold(12));
            dueDetail(x, 11, some -> some.unfold(11));
        });
    }

    private static void noHerd() {
        constant("NO_HERD", 7, ChairMigration.NO_HERD);
        says("Reason: no chair of the herd can move, because it is empty or all its chairs are folded.", () -> {
            ChairMigration x = after("p01;c00;c00;f0;f1");
            dueRejection(x, ChairMigration.NO_HERD, 0, () -> x.migrate(1, 0));
            dueRejection(x, ChairMigration.NO_HERD, 2, () -> x.migrate(0, 1));
            dueCause(x, 0, ChairMigration.NO_HERD, "g1>0");
            dueCause(x, 0, ChairMigration.NO_HERD, "g0>1");
            x.unfold(1);
            due(1, x.migrate(0, 1));
            dueRejection(x, ChairMigration.NO_HERD, 1, () -> x.migrate(0, 1));
        });
        says("The detail is the number of chairs of the herd.", () -> {
            ChairMigration x = after("p01");
            for (int chairs = 0; chairs <= 5; chairs++) {
                dueDetail(x, chairs, some -> some.migrate(0, 1));
                if (chairs < 5) {
                    x.addChair(0, 3);
                    x.fold(chairs);
                }
            }
        });
    }

    private static void noRust() {
        constant("NO_RUST", 8, ChairMigration.NO_RUST);
        says("Reason: the chair has no rust.", () -> {
            ChairMigration x = after("c00;c01");
            dueRejection(x, ChairMigration.NO_RUST, 3, () -> x.oilChair(0));
            dueCause(x, 0, ChairMigration.NO_RUST, "o0");
            due(0, x.oilChair(1));
            dueRejection(x, ChairMigration.NO_RUST, 2, () -> x.oilChair(1));
        });
        says("The detail is the oil.", () -> {
            ChairMigration x = after("c00;c09");
            for (int oil = 3; oil > 0; oil--) {
                dueDetail(x, oil, some -> some.oilChair(0));
                x.oilChair(1);
            }
            dueDetail(x, 0, some -> some.oilChair(1));
            dueDetail(x, 0, some -> some.oilChair(0));
            run(x, "a10;a10");
            dueDetail(x, 20, some -> some.oilChair(0));
        });
    }

    private static void noOil() {
        constant("NO_OIL", 9, ChairMigration.NO_OIL);
        says("Reason: there is no oil.", () -> {
            ChairMigration x = after("c09;c01;o0;o0");
            due(0, x.oilChair(0));
            dueRejection(x, ChairMigration.NO_OIL, 1, () -> x.oilChair(1));
            dueCause(x, 0, ChairMigration.NO_OIL, "o1");
            x.addOil(1);
            due(0, x.oilChair(1));
        });
        says("The detail is the rust of the chair.", () -> {
            ChairMigration x = after("c09;o0;o0;o0;s0");
            for (int rust = 1; rust <= 9; rust++) {
                int chair = x.addChair(rust / 4, rust);
                dueDetail(x, rust, some -> some.oilChair(chair));
            }
        });
    }

    private static void oilLimit() {
        constant("OIL_LIMIT", 10, ChairMigration.OIL_LIMIT);
        says("Reason: there would be more than 20 units of oil.", () -> {
            ChairMigration x = after("a8");
            dueRejection(x, ChairMigration.OIL_LIMIT, 11, () -> x.addOil(10));
            due(20, x.addOil(9));
            dueRejection(x, ChairMigration.OIL_LIMIT, 20, () -> x.addOil(1));
            dueCause(x, 0, ChairMigration.OIL_LIMIT, "a1");
            run(x, "c09;o0");
            due(20, x.addOil(1));
        });
        says("The detail is the oil.", () -> {
            ChairMigration x = after("a8");
            for (int oil = 11; oil < 20; oil++) {
                dueDetail(x, oil, some -> some.addOil(10));
                x.addOil(1);
            }
            dueDetail(x, 20, some -> some.addOil(10));
        });
    }

    private static void commandRejected() {
        constant("COMMAND_REJECTED", 11, ChairMigration.COMMAND_REJECTED);
        says("Reason: a command is rejected.", () -> {
            ChairMigration x = after("p01");
            type(x, "p01");
            dueThrow(REJECTED, () -> x.execute());
            due(ChairMigration.COMMAND_REJECTED, x.rejectionReason());
        });
        says("The detail is the number of the command, from 0.", () -> {
            StringBuilder commands = new StringBuilder("u0");
            for (int number = 0; number < 20; number++) {
                ChairMigration x = after("c00");
                type(x, commands.toString());
                dueDetail(x, number, some -> some.execute());
                commands.insert(0, "d1;");
            }
            dueCause(new ChairMigration(), 1, ChairMigration.PATH_EXISTS, "p01;p01;p01");
        });
        says("The reason for which the method of this command rejects it is the cause.", () -> {
            ChairMigration x = after("p01;c00;c09;c10;f2");
            String[] commands = {"p01", "q02", "f2", "u0", "g1>0", "o0", "o1;o1;o1;c09;o3", "a10;a8",
                "c00;c00;c00;c00", "c00;c00;c00;c10;c10;c10;c10;c30;c30;c30"};
            int[] want = {1, 2, 5, 6, 7, 8, 9, 10, 4, 3};
            for (int number = 0; number < want.length; number++) {
                int cause = want[number];
                type(x, commands[number]);
                dueThrow(REJECTED, () -> x.execute());
                due(cause, x.causeReason());
            }
        });
    }
}
