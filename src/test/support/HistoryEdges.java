/** Promises 57 to 62: what a rejection leaves, undo and the snapshot. */
final class HistoryEdges extends Edges {
    private static final String NO_REJECTION = "Throws `NoSuchElementException` if no call was rejected";

    static void all() {
        rejectionReason();
        rejectionDetail();
        causeReason();
        undo();
        saveSnapshot();
        restoreSnapshot();
    }

    /** Calls that throw, but none of them is rejected. */
    private static ChairMigration refusedWithoutRejection() {
        ChairMigration x = after("p01;c00");
        dueThrow(NO_INDEX, () -> x.fold(1));
        dueThrow(NO_INDEX, () -> x.moveChair(0, 6));
        dueThrow(BAD_ARGUMENT, () -> x.addPath(1, 1));
        dueThrow(BAD_ARGUMENT, () -> x.removePath(1, 1));
        dueThrow(BAD_ARGUMENT, () -> x.addOil(0));
        dueThrow(NO_ELEMENT, () -> x.distance(0, 2));
        dueThrow(BAD_ARGUMENT, () -> run(x, "p"));
        dueThrow(BAD_STATE, () -> run(x, "p66"));
        dueThrow(BAD_STATE, () -> x.restoreSnapshot());
        return x;
    }

    private static void rejectionReason() {
        part("rejectionReason");
        says("Returns the reason of the latest rejection.", () -> {
            ChairMigration x = after("p01;c00");
            dueThrow(REJECTED, () -> x.addPath(0, 1));
            due(ChairMigration.PATH_EXISTS, x.rejectionReason());
            dueThrow(REJECTED, () -> x.unfold(0));
            due(ChairMigration.NOT_FOLDED, x.rejectionReason());
            x.fold(0);
            x.undo();
            dueThrow(NO_INDEX, () -> x.fold(1));
            dueThrow(BAD_STATE, () -> run(x, "f1"));
            due(ChairMigration.NOT_FOLDED, x.rejectionReason());
        });
        says("Returns the reason, one of the constants.", () -> {
            ChairMigration x = after("a10;a7");
            dueThrow(REJECTED, () -> x.addOil(1));
            due(10, x.rejectionReason());
            dueThrow(REJECTED, () -> run(x, "a1"));
            due(11, x.rejectionReason());
        });
        says(NO_REJECTION, () -> {
            dueThrow(NO_ELEMENT, () -> new ChairMigration().rejectionReason());
            dueThrow(NO_ELEMENT, () -> refusedWithoutRejection().rejectionReason());
        });
    }

    private static void rejectionDetail() {
        part("rejectionDetail");
        says("Returns the detail of the latest rejection.", () -> {
            ChairMigration x = after("p01;p12;c00");
            dueThrow(REJECTED, () -> x.addPath(0, 1));
            due(2, x.rejectionDetail());
            dueThrow(REJECTED, () -> x.unfold(0));
            due(0, x.rejectionDetail());
            dueThrow(REJECTED, () -> x.oilChair(0));
            due(3, x.rejectionDetail());
            x.addOil(1);
            x.undo();
            dueThrow(BAD_ARGUMENT, () -> x.addOil(11));
            due(3, x.rejectionDetail());
        });
        says("Returns the detail.", () -> {
            ChairMigration x = new ChairMigration();
            dueThrow(REJECTED, () -> x.removePath(0, 1));
            due(-1, x.rejectionDetail());
        });
        says(NO_REJECTION, () -> {
            dueThrow(NO_ELEMENT, () -> new ChairMigration().rejectionDetail());
            dueThrow(NO_ELEMENT, () -> refusedWithoutRejection().rejectionDetail());
        });
    }

    private static void causeReason() {
        part("causeReason");
        says("Returns the reason of the command that caused the latest rejection.", () -> {
            ChairMigration x = after("p01;c00");
            dueThrow(REJECTED, () -> run(x, "p01"));
            due(ChairMigration.PATH_EXISTS, x.causeReason());
            dueThrow(REJECTED, () -> run(x, "f0;f0;p01"));
            due(ChairMigration.FOLDED, x.causeReason());
            run(x, "f0");
            x.undo();
            dueThrow(BAD_STATE, () -> run(x, "f1"));
            dueThrow(BAD_ARGUMENT, () -> run(x, "f"));
            due(ChairMigration.FOLDED, x.causeReason());
        });
        says("Returns the reason, one of the constants.", () -> {
            ChairMigration x = after("a10;a7");
            dueThrow(REJECTED, () -> run(x, "a1"));
            due(10, x.causeReason());
            dueThrow(REJECTED, () -> run(x, "p01;p01"));
            due(1, x.causeReason());
        });
        says(NO_REJECTION + ", or the latest rejection has another reason than COMMAND_REJECTED", () -> {
            dueThrow(NO_ELEMENT, () -> new ChairMigration().causeReason());
            dueThrow(NO_ELEMENT, () -> refusedWithoutRejection().causeReason());
            ChairMigration x = after("p01");
            dueThrow(REJECTED, () -> x.addPath(0, 1));
            dueThrow(NO_ELEMENT, () -> x.causeReason());
            dueThrow(REJECTED, () -> run(x, "p01"));
            due(1, x.causeReason());
            dueThrow(REJECTED, () -> x.removePath(0, 2));
            dueThrow(NO_ELEMENT, () -> x.causeReason());
        });
    }

    private static void undo() {
        part("undo");
        says("Undoes the latest change that has not been undone.", () -> {
            ChairMigration x = new ChairMigration();
            x.addOil(1);
            x.addOil(2);
            x.addOil(3);
            x.undo();
            due(6, x.oil());
            x.undo();
            due(4, x.oil());
            x.addOil(10);
            x.undo();
            due(4, x.oil());
            x.undo();
            due(3, x.oil());
        });
        says("Returns the number of changes that can still be undone.", () -> {
            ChairMigration x = new ChairMigration();
            for (int changes = 1; changes <= 10; changes++) {
                x.setShade(0, changes);
                due(Math.min(8, changes) - 1, x.undo());
                x.setShade(0, changes);
            }
            for (int left = 7; left >= 0; left--) {
                due(left, x.undo());
            }
        });
        says("Throws `IllegalStateException` if there is none", () -> {
            ChairMigration x = new ChairMigration();
            dueThrow(BAD_STATE, () -> x.undo());
            x.addOil(1);
            due(0, x.undo());
            dueThrow(BAD_STATE, () -> x.undo());
            dueThrow(BAD_ARGUMENT, () -> x.addOil(0));
            dueThrow(REJECTED, () -> x.removePath(0, 1));
            x.saveSnapshot();
            x.writeLawn(0);
            x.appendInput('a');
            dueThrow(BAD_STATE, () -> x.undo());
            due(3, x.oil());
        });
    }

    private static void saveSnapshot() {
        part("saveSnapshot");
        says("Saves a snapshot of the data, in place of an earlier snapshot.", () -> {
            ChairMigration x = after("a1;c00");
            x.saveSnapshot();
            x.addOil(2);
            x.saveSnapshot();
            x.addOil(4);
            x.restoreSnapshot();
            due(6, x.oil());
        });
        says("Returns the number of chairs.", () -> {
            due(0, new ChairMigration().saveSnapshot());
            due(12, full().saveSnapshot());
            ChairMigration x = full();
            x.saveSnapshot();
            x.scrapChair(3);
            due(11, x.saveSnapshot());
        });
    }

    private static void restoreSnapshot() {
        part("restoreSnapshot");
        says("Restores the snapshot, which is kept.", () -> {
            ChairMigration x = after("p01;h3=9;c03;c12;f0;m1>0;d12;a4");
            x.saveSnapshot();
            String before = data(x);
            for (int times = 0; times < 3; times++) {
                run(x, "q01;h3=0;s0;c50;d20;a1");
                x.restoreSnapshot();
                due(before, data(x));
            }
        });
        says("No change can be undone after the call.", () -> {
            ChairMigration x = after("a1", "a2");
            x.saveSnapshot();
            x.addOil(3);
            x.restoreSnapshot();
            dueThrow(BAD_STATE, () -> x.undo());
            x.addOil(1);
            due(0, x.undo());
            due(6, x.oil());
            dueThrow(BAD_STATE, () -> x.undo());
        });
        says("Returns the number of chairs.", () -> {
            ChairMigration x = new ChairMigration();
            x.saveSnapshot();
            x.addChair(0, 0);
            due(0, x.restoreSnapshot());
            ChairMigration full = full();
            full.saveSnapshot();
            full.scrapChair(0);
            due(12, full.restoreSnapshot());
            full.scrapChair(11);
            full.saveSnapshot();
            full.addChair(3, 0);
            due(11, full.restoreSnapshot());
        });
        says("Throws `IllegalStateException` if there is no snapshot", () -> {
            ChairMigration x = after("a1");
            dueThrow(BAD_STATE, () -> x.restoreSnapshot());
            due(4, x.oil());
            due(0, x.undo());
            x.saveSnapshot();
            due(0, x.restoreSnapshot());
        });
    }
}
