/** What the class is, and for how many calls an object of it is used. */
final class UseEdges extends Edges {
    static void all() {
        part("What it is");
        allInAll();
        everyCall();
    }

    private static void allInAll() {
        says("A simulation of garden chairs that migrate between lawns: lawns with shade and paths, herds in the order of "
            + "arrival, chairs that graze, rust, are folded, oiled and collapse, seasons, distances in two ways, routes, "
            + "forecasts, orders, a command language with syntax errors by offset, reasons for rejected calls, undo, and a "
            + "snapshot.", () -> {
                ChairMigration x = after("p01;p12;h0=1;h1=0;c02;c09;c15;g0>1");
                due("2 0 1", herd(x, 1));
                due("5 2 9", x.rustOf(2) + " " + x.rustOf(0) + " " + x.rustOf(1));
                due("012", route(x, 0, 2));
                due(2, x.distanceByImprovement(0, 2));
                due(1, x.wouldCollapse(2));
                due(1, x.collapseDay(1));
                due(3, x.saveSnapshot());
                due(3, run(x, "f2;o0;d2"));
                due(0, x.season());
                due("2 0", herd(x, 1));
                dueOutput(x, 1, "1:5 2r5f 0r1");
                due(2, x.chairByRust(0));
                due(1, x.lawnByShade(5));
                type(x, "f0;f");
                dueThrow(BAD_ARGUMENT, () -> x.execute());
                due(4, x.syntaxErrorOffset());
                dueRejection(x, ChairMigration.FOLDED, 2, () -> x.fold(2));
                due(1, x.undo());
                due(3, x.restoreSnapshot());
            });
    }

    private static void everyCall() {
        says("An object is used for at most 512 calls after it has been made; what later calls answer is free.", () -> {
            ChairMigration daily = new ChairMigration();
            repeat(511, number -> daily.passDays(20));
            due(10220, daily.day());
            ChairMigration crowded = new ChairMigration();
            repeat(510, number -> number % 2 == 0 ? crowded.addChair(3, 0) : crowded.scrapChair(number / 2));
            due(255, crowded.addChair(3, 0));
            due(255, crowded.scrappedChairs());
            ChairMigration moved = new ChairMigration();
            moved.addPath(4, 5);
            moved.addChair(4, 0);
            repeat(509, number -> moved.moveChair(0, 5 - number % 2));
            due(509, moved.moveCount());
            ChairMigration undone = new ChairMigration();
            repeat(503, number -> undone.setShade(2, number % 21));
            repeat(8, number -> undone.undo());
            due(494 % 21, undone.shadeOf(2));
            ChairMigration restored = new ChairMigration();
            repeat(510, number -> number % 2 == 0 ? restored.saveSnapshot() : restored.restoreSnapshot());
            due(0, restored.restoreSnapshot());
            dueThrow(BAD_STATE, () -> restored.undo());
            ChairMigration refused = new ChairMigration();
            repeat(511, number -> answerOf(() -> refused.removePath(0, 1 + number % 5)));
            due(-1, refused.rejectionDetail());
            ChairMigration typed = new ChairMigration();
            repeat(511, number -> answerOf(() -> typed.appendInput("d1;".charAt(number % 3))));
            dueThrow(BAD_ARGUMENT, () -> typed.execute());
        });
    }

    private static void repeat(int times, Call call) {
        for (int number = 0; number < times; number++) {
            call.of(number);
        }
    }
}
