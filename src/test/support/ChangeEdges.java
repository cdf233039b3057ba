import java.util.List;

/** The terms of rejections, changes and exceptions: what is refused first, and what a refused call leaves as it was. */
final class ChangeEdges extends Edges {
    static void all() {
        part("Terms");
        rejections();
        reasons();
        rejectedCallsChangeNothing();
        changes();
        callsThatAreNoChange();
        latestChanges();
        covered();
        notCovered();
        callsThatThrowChangeNothing();
        executionsThatThrowChangeNothing();
        orderOfExceptions();
    }

    /**
     * A garden in which much has happened in 4 changes: chair 0 has collapsed, 5 was scrapped, 3 is folded; chair 4 is
     * alone on lawn 2, and 2, 3 and 1 are on lawn 1, in this order. There is a snapshot, an output, a syntax error, a
     * rejection, and an input that waits.
     */
    private static ChairMigration lived(String commands) {
        ChairMigration x = after("h0=0;h4=1;p01;p12;p23;c09;c03;c12;c14;c25;c25;c40", "d1;m1>1;f3;o4;s5");
        x.saveSnapshot();
        x.setShade(2, 20);
        run(x, commands);
        x.writeLawn(1);
        dueThrow(BAD_ARGUMENT, () -> run(x, "p0x"));
        dueThrow(REJECTED, () -> run(x, "u3;f4;f4"));
        type(x, "d1");
        return x;
    }

    private static void dueSame(List<String> want, List<String> got) {
        due(want.size(), got.size());
        for (int index = 0; index < Math.min(want.size(), got.size()); index++) {
            due(want.get(index), got.get(index));
        }
    }

    private static void rejections() {
        says("A call is rejected for the first reason that applies, in the order in which its method names them.", () -> {
            // Lawn 0 with 5 chairs, lawn 1 with 5 folded ones, and 2 on lawn 2; a path between 1 and 2.
            ChairMigration x = full();
            run(x, "f5;f6;f7;f8;f9;p12");
            dueRejection(x, ChairMigration.CHAIR_LIMIT, 12, () -> x.addChair(0, 0));
            dueRejection(x, ChairMigration.FOLDED, 5, () -> x.moveChair(5, 0));
            dueRejection(x, ChairMigration.FOLDED, 5, () -> x.moveChair(5, 1));
            dueRejection(x, ChairMigration.FOLDED, 5, () -> x.moveChair(5, 2));
            dueRejection(x, ChairMigration.NO_PATH, -1, () -> x.moveChair(0, 1));
            dueRejection(x, ChairMigration.NO_PATH, 0, () -> x.moveChair(0, 0));
            dueRejection(x, ChairMigration.LAWN_FULL, 1, () -> x.moveChair(10, 1));
            dueRejection(x, ChairMigration.NO_PATH, -1, () -> x.migrate(1, 0));
            dueRejection(x, ChairMigration.NO_PATH, 0, () -> x.migrate(3, 3));
            dueRejection(x, ChairMigration.NO_PATH, -1, () -> x.migrate(3, 0));
            run(x, "p01;p31");
            dueRejection(x, ChairMigration.NO_HERD, 5, () -> x.migrate(1, 0));
            dueRejection(x, ChairMigration.NO_HERD, 0, () -> x.migrate(3, 1));
            dueRejection(x, ChairMigration.LAWN_FULL, 1, () -> x.migrate(2, 1));
            run(x, "s0;c09;o12;o12;o12");
            dueRejection(x, ChairMigration.NO_RUST, 0, () -> x.oilChair(12));
            dueCause(x, 0, ChairMigration.CHAIR_LIMIT, "c00");
            dueCause(x, 0, ChairMigration.FOLDED, "m5>0");
            dueCause(x, 0, ChairMigration.NO_HERD, "g1>0");
            dueCause(x, 0, ChairMigration.NO_RUST, "o12");
        });
    }

    private static void reasons() {
        says("Every reason is a constant, and has a detail that is described there.", () -> {
            ChairMigration x = after("p01;c00;c01;f1");
            dueRejection(x, 1, 1, () -> x.addPath(1, 0));
            dueRejection(x, 2, -1, () -> x.removePath(1, 2));
            dueRejection(x, 5, 1, () -> x.fold(1));
            dueRejection(x, 6, 0, () -> x.unfold(0));
            dueRejection(x, 7, 0, () -> x.migrate(1, 0));
            dueRejection(x, 8, 3, () -> x.oilChair(0));
            run(x, "c03;c09;o2;o3;o3");
            dueRejection(x, 9, 1, () -> x.oilChair(1));
            run(x, "a10;a9");
            dueRejection(x, 10, 19, () -> x.addOil(2));
            x.addChair(0, 0);
            dueRejection(x, 4, 0, () -> x.addChair(0, 0));
            run(x, "c10;c10;c10;c10;c10;c20;c20");
            dueRejection(x, 3, 12, () -> x.addChair(3, 0));
            dueCause(x, 1, 10, "a1;a1");
        });
    }

    private static void leavesAllButTheRejection(String commands, int reason, int detail, CallOf call) {
        ChairMigration refused = lived(commands);
        dueThrow(REJECTED, () -> call.of(refused));
        due(reason, refused.rejectionReason());
        due(detail, refused.rejectionDetail());
        dueSame(Answers.of(lived(commands), false, true), Answers.of(refused, false, true));
    }

    private static void rejectedCallsChangeNothing() {
        says("A rejected call changes nothing but the latest rejection.", () -> {
            leavesAllButTheRejection("a1", 1, 3, x -> x.addPath(1, 0));
            leavesAllButTheRejection("a1", 2, 3, x -> x.removePath(3, 0));
            leavesAllButTheRejection("c30;c30;c30;c50;c50;c50;c50", 3, 12, x -> x.addChair(0, 0));
            leavesAllButTheRejection("c10;c10", 4, 1, x -> x.addChair(1, 0));
            leavesAllButTheRejection("a1", 5, 3, x -> x.fold(3));
            leavesAllButTheRejection("a1", 6, 1, x -> x.unfold(1));
            leavesAllButTheRejection("a1", 5, 3, x -> x.moveChair(3, 0));
            leavesAllButTheRejection("a1", 2, 2, x -> x.moveChair(4, 0));
            leavesAllButTheRejection("c10;c10", 4, 1, x -> x.moveChair(4, 1));
            leavesAllButTheRejection("a1", 2, 0, x -> x.migrate(1, 1));
            leavesAllButTheRejection("a1", 7, 0, x -> x.migrate(3, 2));
            leavesAllButTheRejection("f4", 7, 1, x -> x.migrate(2, 1));
            leavesAllButTheRejection("c10;c10", 4, 1, x -> x.migrate(2, 1));
            leavesAllButTheRejection("a1", 8, 3, x -> x.oilChair(6));
            leavesAllButTheRejection("o2;o3", 9, 4, x -> x.oilChair(1));
            leavesAllButTheRejection("a10;a8", 10, 20, x -> x.addOil(1));
        });
    }

    /** Each change is undone twice: once at once, once with a change ahead of it. */
    private static void dueOneChange(String commands, CallOf change) {
        ChairMigration x = after(commands, "h3=20");
        String before = data(x);
        change.of(x);
        due(2, x.undo());
        due(before, data(x));
    }

    private static void changes() {
        says("A change is a call of addPath, removePath, setShade, addChair, scrapChair, fold, unfold, moveChair, migrate, "
            + "oilChair, addOil, passDays or execute that returns a value, also if nothing is different after it.", () -> {
                dueOneChange("a1", x -> x.addPath(0, 1));
                dueOneChange("p01;p12", x -> x.removePath(0, 1));
                dueOneChange("a1", x -> x.setShade(0, 7));
                dueOneChange("c00", x -> x.addChair(0, 1));
                dueOneChange("c00;c03;c02", x -> x.scrapChair(1));
                dueOneChange("c00;c00", x -> x.fold(1));
                dueOneChange("c00;c00;f1", x -> x.unfold(1));
                dueOneChange("p01;c00;c00;c10", x -> x.moveChair(0, 1));
                dueOneChange("p01;c00;c00;c10", x -> x.migrate(0, 1));
                dueOneChange("c00;c02", x -> x.oilChair(1));
                dueOneChange("a1", x -> x.addOil(2));
                dueOneChange("h0=0;c09;c08;c13", x -> x.passDays(20));
                dueOneChange("p01", x -> run(x, "p12;c01;c02;d3;f1;h2=2;g0>1;a2;o0"));
                dueOneChange("h0=4", x -> x.setShade(0, 4));
                dueOneChange("h0=4", x -> run(x, "h0=4"));
                dueOneChange("h0=4", x -> run(x, "p01;q01"));
                dueOneChange("c00", x -> run(x, "f0;u0"));
            });
    }

    private static void callsThatAreNoChange() {
        says("A change is a call of addPath, removePath, setShade, addChair, scrapChair, fold, unfold, moveChair, migrate, "
            + "oilChair, addOil, passDays or execute that returns a value, also if nothing is different after it.", () -> {
                ChairMigration x = after("p01;c05;c15");
                x.addOil(1);
                x.isPath(0, 1);
                x.distance(0, 1);
                x.distanceByImprovement(0, 1);
                x.routeAt(0, 1, 1);
                x.reachableLawns(0);
                x.bestNeighbour(0);
                x.wouldCollapse(20);
                x.collapseDay(0);
                x.isConsistent();
                x.writeLawn(0);
                x.outputAt(0);
                x.appendInput('x');
                dueThrow(BAD_ARGUMENT, () -> x.execute());
                x.syntaxErrorOffset();
                dueThrow(REJECTED, () -> x.unfold(0));
                x.rejectionReason();
                x.saveSnapshot();
                due(1, x.undo());
                due(3, x.oil());
                due(2, x.chairCount());
            });
    }

    private static void latestChanges() {
        says("The latest 8 changes can be undone.", () -> {
            for (int changes = 7; changes <= 10; changes++) {
                ChairMigration x = new ChairMigration();
                for (int made = 1; made <= changes; made++) {
                    run(x, "h0=" + (made + 5) + ";a1");
                }
                for (int undone = 1; undone <= Math.min(8, changes); undone++) {
                    due(Math.min(8, changes) - undone, x.undo());
                    due(changes - undone + 3, x.oil());
                    due(changes - undone + 5, x.shadeOf(0));
                }
                dueThrow(BAD_STATE, () -> x.undo());
                due(Math.max(0, changes - 8) + 3, x.oil());
            }
        });
    }

    private static void covered() {
        says("Undo and the snapshot cover everything but the input, the output, the latest rejection and the latest syntax "
            + "error; they also cover the id that is given next.", () -> {
                ChairMigration undone = lived("a1");
                undone.execute();
                run(undone, "p03;q12;h1=3;h5=0;c50;c03;s1;f2;u3;m3>0;g0>3;a7;o4;d20");
                undone.addChair(5, 5);
                due(6, undone.undo());
                due(5, undone.undo());
                due(4, undone.undo());
                type(undone, "d1");
                dueSame(Answers.of(lived("a1")), Answers.of(undone));

                ChairMigration restored = after("p01;c05;c05;c15;d1;m0>1;o1;s2");
                restored.saveSnapshot();
                run(restored, "p03;h1=3;h5=0;c50;c03;f0;d1;m1>3;g0>1;q01;a7;d20;d20;c00");
                due(2, restored.restoreSnapshot());
                ChairMigration saved = after("p01;c05;c05;c15;d1;m0>1;o1;s2");
                saved.saveSnapshot();
                saved.restoreSnapshot();
                dueSame(Answers.of(saved), Answers.of(restored));
            });
    }

    private static void notCovered() {
        says("Undo and the snapshot cover everything but the input, the output, the latest rejection and the latest syntax "
            + "error; they also cover the id that is given next.", () -> {
                ChairMigration x = after("c00");
                x.writeLawn(0);
                x.saveSnapshot();
                x.addOil(1);
                dueThrow(BAD_ARGUMENT, () -> run(x, "a1;?"));
                dueThrow(REJECTED, () -> run(x, "f0;u0;u0"));
                x.writeLawn(3);
                type(x, "a2");
                x.undo();
                due("3:5", output(x));
                due(3, x.syntaxErrorOffset());
                due(11, x.rejectionReason());
                due(2, x.rejectionDetail());
                due(6, x.causeReason());
                x.restoreSnapshot();
                due("3:5", output(x));
                due(3, x.syntaxErrorOffset());
                due(11, x.rejectionReason());
                due(2, x.rejectionDetail());
                due(6, x.causeReason());
                due(1, x.execute());
                due(5, x.oil());
            });
    }

    private static void leavesAll(Class<?> want, CallOf call) {
        ChairMigration refused = lived("a1");
        dueThrow(want, () -> call.of(refused));
        dueSame(Answers.of(lived("a1")), Answers.of(refused));
    }

    private static void callsThatThrowChangeNothing() {
        says("A call that throws an exception changes nothing, except where this is stated.", () -> {
            lawnCallsThatThrow();
            chairCallsThatThrow();
            otherCallsThatThrow();
            ChairMigration fresh = new ChairMigration();
            dueThrow(BAD_STATE, () -> fresh.undo());
            dueThrow(BAD_STATE, () -> fresh.restoreSnapshot());
            dueThrow(NO_ELEMENT, () -> fresh.rejectionReason());
            dueThrow(NO_ELEMENT, () -> fresh.syntaxErrorOffset());
            dueSame(Answers.of(new ChairMigration()), Answers.of(fresh));
        });
    }

    private static void lawnCallsThatThrow() {
        leavesAll(NO_INDEX, x -> x.addPath(0, 6));
        leavesAll(BAD_ARGUMENT, x -> x.addPath(3, 3));
        leavesAll(NO_INDEX, x -> x.removePath(-1, 0));
        leavesAll(BAD_ARGUMENT, x -> x.removePath(3, 3));
        leavesAll(NO_INDEX, x -> x.isPath(0, 6));
        leavesAll(NO_INDEX, x -> x.distance(0, 6));
        leavesAll(NO_ELEMENT, x -> x.distance(0, 4));
        leavesAll(NO_INDEX, x -> x.distanceByImprovement(0, 6));
        leavesAll(NO_ELEMENT, x -> x.distanceByImprovement(0, 4));
        leavesAll(NO_INDEX, x -> x.routeAt(0, 6, 0));
        leavesAll(NO_ELEMENT, x -> x.routeAt(0, 1, 2));
        leavesAll(NO_INDEX, x -> x.reachableLawns(6));
        leavesAll(NO_INDEX, x -> x.setShade(6, 0));
        leavesAll(BAD_ARGUMENT, x -> x.setShade(0, 21));
        leavesAll(NO_INDEX, x -> x.shadeOf(6));
        leavesAll(NO_INDEX, x -> x.herdSize(6));
        leavesAll(NO_INDEX, x -> x.herdSizeByChairs(6));
        leavesAll(NO_INDEX, x -> x.chairAt(6, 0));
        leavesAll(NO_ELEMENT, x -> x.chairAt(1, 3));
        leavesAll(NO_INDEX, x -> x.elderOf(6));
        leavesAll(NO_ELEMENT, x -> x.elderOf(0));
        leavesAll(NO_INDEX, x -> x.hungryChairs(6));
        leavesAll(NO_INDEX, x -> x.bestNeighbour(6));
        leavesAll(NO_ELEMENT, x -> x.bestNeighbour(4));
    }

    private static void chairCallsThatThrow() {
        leavesAll(NO_INDEX, x -> x.addChair(6, 0));
        leavesAll(BAD_ARGUMENT, x -> x.addChair(0, 10));
        leavesAll(NO_INDEX, x -> x.scrapChair(0));
        leavesAll(NO_INDEX, x -> x.fold(0));
        leavesAll(NO_INDEX, x -> x.unfold(5));
        leavesAll(NO_INDEX, x -> x.moveChair(7, 1));
        leavesAll(NO_INDEX, x -> x.moveChair(1, 6));
        leavesAll(NO_INDEX, x -> x.migrate(1, 6));
        leavesAll(NO_INDEX, x -> x.oilChair(7));
        leavesAll(BAD_ARGUMENT, x -> x.addOil(0));
        leavesAll(BAD_ARGUMENT, x -> x.addOil(11));
        leavesAll(NO_INDEX, x -> x.lawnOf(7));
        leavesAll(NO_INDEX, x -> x.rustOf(7));
        leavesAll(NO_INDEX, x -> x.isFolded(7));
        leavesAll(NO_INDEX, x -> x.ageOf(7));
        leavesAll(NO_INDEX, x -> x.positionOf(7));
    }

    private static void otherCallsThatThrow() {
        leavesAll(BAD_ARGUMENT, x -> x.passDays(0));
        leavesAll(BAD_ARGUMENT, x -> x.passDays(21));
        leavesAll(BAD_ARGUMENT, x -> x.daysUntil(4));
        leavesAll(BAD_ARGUMENT, x -> x.wouldCollapse(21));
        leavesAll(NO_INDEX, x -> x.collapseDay(7));
        leavesAll(NO_ELEMENT, x -> x.collapseDay(3));
        leavesAll(NO_ELEMENT, x -> x.chairByRust(5));
        leavesAll(NO_ELEMENT, x -> x.lawnByShade(6));
        leavesAll(NO_INDEX, x -> x.writeLawn(6));
        leavesAll(NO_INDEX, x -> x.outputAt(99));
        leavesAll(BAD_ARGUMENT, x -> x.appendInput((char) 127));
        ChairMigration empty = new ChairMigration();
        dueThrow(NO_NUMBER, () -> empty.meanRust());
        dueThrow(NO_NUMBER, () -> empty.foldedShare());
        dueSame(Answers.of(new ChairMigration()), Answers.of(empty));
        ChairMigration typed = new ChairMigration();
        type(typed, "d11;d11;d11;d11;d11;d11;d11;d11;d11;d11;d11;d11;d11;d11;a001");
        dueThrow(BAD_STATE, () -> typed.appendInput('1'));
        dueThrow(BAD_ARGUMENT, () -> typed.execute());
        due(58 + 1, typed.syntaxErrorOffset());
        due(0, typed.day());
    }

    /** What execute changes when it throws is the input, and the latest rejection or the latest syntax error. */
    private static void executionsThatThrowChangeNothing() {
        says("A call that throws an exception changes nothing, except where this is stated.", () -> {
            String[] commands = {";p01", ";f6;h0=1;s3;c00;d1;p99", ";p13;u3;m3>2;a9;d20;u6"};
            Class<?>[] want = {REJECTED, BAD_STATE, REJECTED};
            for (int number = 0; number < commands.length; number++) {
                ChairMigration untouched = lived("a1");
                untouched.execute();
                untouched.undo();
                ChairMigration refused = lived("a1");
                type(refused, commands[number]);
                dueThrow(want[number], () -> refused.execute());
                boolean rejected = want[number] == REJECTED;
                dueSame(Answers.of(untouched, !rejected, true), Answers.of(refused, !rejected, true));
            }
            ChairMigration untouched = lived("a1");
            untouched.execute();
            untouched.undo();
            ChairMigration refused = lived("a1");
            type(refused, ";s3;f6;!");
            dueThrow(BAD_ARGUMENT, () -> refused.execute());
            dueSame(Answers.of(untouched, true, false), Answers.of(refused, true, false));
        });
    }

    private static void orderOfExceptions() {
        says("If several exceptions of a method apply, the one that is listed first is thrown.", () -> {
            ChairMigration x = full();
            run(x, "f0;a10;a7");
            dueThrow(NO_INDEX, () -> x.addPath(6, 6));
            dueThrow(NO_INDEX, () -> x.removePath(-1, -1));
            dueThrow(BAD_ARGUMENT, () -> x.removePath(2, 2));
            dueThrow(NO_INDEX, () -> x.routeAt(6, 0, -1));
            dueThrow(NO_INDEX, () -> x.routeAt(0, -1, 9));
            dueThrow(NO_INDEX, () -> x.setShade(6, 21));
            dueThrow(NO_INDEX, () -> x.setShade(-1, -1));
            dueThrow(NO_INDEX, () -> x.addChair(6, 10));
            dueThrow(NO_INDEX, () -> x.addChair(-1, 0));
            dueThrow(BAD_ARGUMENT, () -> x.addChair(0, 10));
            dueThrow(BAD_ARGUMENT, () -> x.addChair(0, -1));
            dueThrow(NO_INDEX, () -> x.moveChair(0, 6));
            dueThrow(NO_INDEX, () -> x.moveChair(12, 0));
            dueThrow(NO_INDEX, () -> x.migrate(3, 6));
            dueThrow(NO_INDEX, () -> x.migrate(6, 0));
            dueThrow(NO_INDEX, () -> x.migrate(6, 6));
            dueThrow(BAD_ARGUMENT, () -> x.addOil(11));
            dueThrow(BAD_ARGUMENT, () -> x.addOil(0));
            dueThrow(NO_INDEX, () -> x.chairAt(6, -1));
            dueThrow(NO_INDEX, () -> x.elderOf(6));
            dueThrow(NO_INDEX, () -> x.bestNeighbour(-1));
            dueThrow(NO_INDEX, () -> x.collapseDay(12));
            dueThrow(NO_ELEMENT, () -> x.rejectionReason());
            type(x, "p00;a1;p");
            for (int length = 9; length <= 60; length++) {
                due(length, x.appendInput('~'));
            }
            dueThrow(BAD_ARGUMENT, () -> x.appendInput((char) 31));
            dueThrow(BAD_STATE, () -> x.appendInput('~'));
            dueThrow(BAD_ARGUMENT, () -> x.execute());
            due(8, x.syntaxErrorOffset());
            dueThrow(NO_ELEMENT, () -> x.rejectionReason());
        });
    }
}
