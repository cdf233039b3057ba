/** Promises 12 to 25: what is done to chairs, the oil, and what a chair is asked for. */
final class ChairEdges extends Edges {
    private static final String NO_LAWN = "Throws `IndexOutOfBoundsException` if there is no such lawn";
    private static final String NO_CHAIR = "Throws `IndexOutOfBoundsException` if there is no chair with this id";
    private static final String REJECTION = "Throws `UnsupportedOperationException` if the call is rejected with the reason ";
    private static final String LAWN = "`lawn`: the index of a lawn, 0 to 5";
    private static final String CHAIR = "`chair`: the id of a chair";

    static void all() {
        addChair();
        addChairRefused();
        scrapChair();
        fold();
        unfold();
        moveChair();
        moveChairRefused();
        migrate();
        migrateRefused();
        oilChair();
        addOil();
        exists();
        lawnOf();
        rustOf();
        isFolded();
        ageOf();
        positionOf();
    }

    private static void addChair() {
        part("addChair");
        says("Adds a chair at the end of the herd of a lawn.", () -> {
            ChairMigration x = after("p12;c20;c10;c20;m1>2");
            x.addChair(2, 0);
            due("0 2 1 3", herd(x, 2));
            due("", herd(x, 1));
        });
        says("It is not folded.", () -> {
            ChairMigration x = after("c00;c00;f0;f1;s1");
            x.addChair(0, 0);
            due(false, x.isFolded(2));
            due(1, x.foldedCount());
        });
        says(LAWN, () -> {
            ChairMigration x = new ChairMigration();
            for (int lawn = 0; lawn < 6; lawn++) {
                due(lawn, x.addChair(lawn, 0));
                due(lawn, x.lawnOf(lawn));
            }
        });
        says("`rust`: the rust of the chair, 0 to 9", () -> {
            ChairMigration x = new ChairMigration();
            for (int rust = 0; rust <= 9; rust++) {
                due(rust, x.addChair(rust / 2, rust));
                due(rust, x.rustOf(rust));
            }
        });
        says("Returns the id of the chair.", () -> {
            ChairMigration x = new ChairMigration();
            for (int chair = 0; chair < 12; chair++) {
                due(chair, x.addChair(chair / 5, 9 - chair / 2));
                due(9 - chair / 2, x.rustOf(chair));
            }
            x.scrapChair(11);
            x.scrapChair(0);
            due(12, x.addChair(5, 0));
            due(5, x.lawnOf(12));
        });
    }

    private static void addChairRefused() {
        says(NO_LAWN, () -> {
            ChairMigration x = new ChairMigration();
            noLawn(no -> x.addChair(no, 0));
            noLawn(no -> x.addChair(no, 9));
            noLawn(no -> x.addChair(no, 10));
            due(0, x.chairCount());
        });
        says("Throws `IllegalArgumentException` if rust is out of range", () -> {
            ChairMigration x = new ChairMigration();
            outOfRange(rust -> x.addChair(0, rust), -1, 10, -2, 11);
            due(0, x.chairCount());
            due(0, x.addChair(0, 9));
        });
        says(REJECTION + "CHAIR_LIMIT or LAWN_FULL", () -> {
            ChairMigration x = after("c00;c00;c00;c00");
            due(4, x.addChair(0, 0));
            dueRejection(x, ChairMigration.LAWN_FULL, 0, () -> x.addChair(0, 0));
            run(x, "c10;c10;c10;c10;c10;c20");
            dueRejection(x, ChairMigration.LAWN_FULL, 1, () -> x.addChair(1, 0));
            due(11, x.addChair(2, 0));
            dueRejection(x, ChairMigration.CHAIR_LIMIT, 12, () -> x.addChair(3, 0));
            dueRejection(x, ChairMigration.CHAIR_LIMIT, 12, () -> x.addChair(0, 0));
            x.scrapChair(11);
            dueRejection(x, ChairMigration.LAWN_FULL, 0, () -> x.addChair(0, 0));
            due(12, x.addChair(3, 0));
        });
    }

    private static void scrapChair() {
        part("scrapChair");
        says("Scraps a chair: it is removed.", () -> {
            ChairMigration x = after("c00;c01;c02;f1");
            x.scrapChair(1);
            due(false, x.exists(1));
            due("0 2", herd(x, 0));
            due(2, x.chairCount());
            due(0, x.foldedCount());
            due(2, x.totalRust());
            due(1, x.scrappedChairs());
        });
        says(CHAIR, () -> {
            ChairMigration x = full();
            x.scrapChair(0);
            x.scrapChair(11);
            due("1 2 3 4", herd(x, 0));
            due("10", herd(x, 2));
        });
        says("Returns the rust of the chair.", () -> {
            ChairMigration x = after("c00;c09;c14;f2");
            due(9, x.scrapChair(1));
            due(0, x.scrapChair(0));
            due(4, x.scrapChair(2));
        });
        says(NO_CHAIR, () -> {
            ChairMigration x = withGoneChairs();
            noChair(no -> x.scrapChair(no));
            due(2, x.chairCount());
            due(1, x.scrappedChairs());
            x.scrapChair(0);
            dueThrow(NO_INDEX, () -> x.scrapChair(0));
            dueThrow(NO_INDEX, () -> new ChairMigration().scrapChair(0));
        });
    }

    private static void fold() {
        part("fold");
        says("Folds a chair.", () -> {
            ChairMigration x = after("c00;c00;c10");
            x.fold(1);
            due(false, x.isFolded(0));
            due(true, x.isFolded(1));
            due(false, x.isFolded(2));
            due("0 1", herd(x, 0));
        });
        says(CHAIR, () -> {
            ChairMigration x = full();
            x.fold(0);
            x.fold(11);
            due(true, x.isFolded(0));
            due(true, x.isFolded(11));
        });
        says("Returns the number of folded chairs after the call.", () -> {
            ChairMigration x = full();
            for (int chair = 0; chair < 12; chair++) {
                due(chair + 1, x.fold(chair));
            }
            x.scrapChair(3);
            x.unfold(5);
            due(11, x.fold(5));
        });
        says(NO_CHAIR, () -> {
            ChairMigration x = withGoneChairs();
            noChair(no -> x.fold(no));
            due(0, x.foldedCount());
            dueThrow(NO_INDEX, () -> new ChairMigration().fold(0));
        });
        says(REJECTION + "FOLDED", () -> {
            ChairMigration x = after("c00;c00;f1");
            dueRejection(x, ChairMigration.FOLDED, 1, () -> x.fold(1));
            due(true, x.isFolded(1));
            x.unfold(1);
            due(1, x.fold(1));
        });
    }

    private static void unfold() {
        part("unfold");
        says("Unfolds a chair.", () -> {
            ChairMigration x = after("c00;c00;c10;f0;f1;f2");
            x.unfold(1);
            due(true, x.isFolded(0));
            due(false, x.isFolded(1));
            due(true, x.isFolded(2));
            due("0 1", herd(x, 0));
        });
        says(CHAIR, () -> {
            ChairMigration x = full();
            run(x, "f0;f5;f11");
            x.unfold(0);
            x.unfold(11);
            due(false, x.isFolded(0));
            due(true, x.isFolded(5));
            due(false, x.isFolded(11));
        });
        says("Returns the number of folded chairs after the call.", () -> {
            ChairMigration x = full();
            run(x, "f0;f1;f2;f3;f4;f5;f6;f7;f8;f9;f10;f11");
            for (int chair = 0; chair < 12; chair++) {
                due(11 - chair, x.unfold(chair));
            }
        });
        says(NO_CHAIR, () -> {
            ChairMigration x = withGoneChairs();
            run(x, "f0;f3");
            noChair(no -> x.unfold(no));
            due(2, x.foldedCount());
            dueThrow(NO_INDEX, () -> new ChairMigration().unfold(0));
        });
        says(REJECTION + "NOT_FOLDED", () -> {
            ChairMigration x = after("c00;c00;f0");
            dueRejection(x, ChairMigration.NOT_FOLDED, 1, () -> x.unfold(1));
            due(0, x.unfold(0));
            dueRejection(x, ChairMigration.NOT_FOLDED, 0, () -> x.unfold(0));
        });
    }

    private static void moveChair() {
        part("moveChair");
        says("Moves a chair to the end of the herd of another lawn.", () -> {
            ChairMigration x = after("p01;c00;c10;c00;c10;c00");
            x.moveChair(0, 1);
            due("2 4", herd(x, 0));
            due("1 3 0", herd(x, 1));
            x.moveChair(1, 0);
            due("2 4 1", herd(x, 0));
            due("3 0", herd(x, 1));
            due(2, x.moveCount());
        });
        says(CHAIR, () -> {
            ChairMigration x = full();
            run(x, "p13;p23;p03");
            due(0, x.moveChair(0, 3));
            due(2, x.moveChair(11, 3));
            due("0 11", herd(x, 3));
        });
        says(LAWN, () -> {
            ChairMigration x = after("p05;c00");
            due(0, x.moveChair(0, 5));
            due(5, x.lawnOf(0));
            due(5, x.moveChair(0, 0));
            due(0, x.lawnOf(0));
        });
        says("Returns the lawn of the chair before the call.", () -> {
            ChairMigration x = after("p04;p43;c00");
            due(0, x.moveChair(0, 4));
            due(4, x.moveChair(0, 3));
            due(3, x.moveChair(0, 4));
        });
    }

    private static void moveChairRefused() {
        says(NO_CHAIR + ", or no such lawn", () -> {
            ChairMigration x = withGoneChairs();
            noChair(no -> x.moveChair(no, 2));
            noChair(no -> x.moveChair(no, 6));
            noLawn(no -> x.moveChair(0, no));
            x.fold(0);
            noLawn(no -> x.moveChair(0, no));
            due(0, x.moveCount());
            dueThrow(NO_INDEX, () -> new ChairMigration().moveChair(0, 0));
        });
        says(REJECTION + "FOLDED, NO_PATH or LAWN_FULL", () -> {
            ChairMigration x = after("p01;p12;c00;c00;c20;c20;c20;c20;c10;f1");
            dueRejection(x, ChairMigration.FOLDED, 1, () -> x.moveChair(1, 1));
            dueRejection(x, ChairMigration.NO_PATH, 2, () -> x.moveChair(0, 2));
            dueRejection(x, ChairMigration.NO_PATH, -1, () -> x.moveChair(0, 3));
            dueRejection(x, ChairMigration.NO_PATH, 0, () -> x.moveChair(0, 0));
            due(1, x.moveChair(6, 2));
            x.moveChair(0, 1);
            dueRejection(x, ChairMigration.LAWN_FULL, 2, () -> x.moveChair(0, 2));
            due(2, x.moveChair(6, 1));
            due(1, x.moveChair(0, 2));
        });
    }

    private static void migrate() {
        part("migrate");
        says("Lets a herd migrate to another lawn: its chairs that are not folded move to the end of the herd of the other "
            + "lawn, one after the other in the order of the herd, as long as there are free places.", () -> {
                ChairMigration x = after("p01;c00;c10;c00;c00;c00;c10;m0>1;f3");
                x.moveChair(0, 0);
                due("2 3 4 0", herd(x, 0));
                due("1 5", herd(x, 1));
                x.migrate(0, 1);
                due("3", herd(x, 0));
                due("1 5 2 4 0", herd(x, 1));
                run(x, "c00;c00");
                x.migrate(1, 0);
                due("3 6 7 1 5", herd(x, 0));
                due("2 4 0", herd(x, 1));
                due(7, x.moveCount());
            });
        says("`from`: the index of the lawn of the herd", () -> {
            ChairMigration x = after("p03;p53;c00;c50");
            due(1, x.migrate(0, 3));
            due(1, x.migrate(5, 3));
            due("0 1", herd(x, 3));
        });
        says("`to`: the index of the other lawn", () -> {
            ChairMigration x = after("p03;p53;c30");
            due(1, x.migrate(3, 0));
            due("0", herd(x, 0));
            run(x, "g0>3");
            due(1, x.migrate(3, 5));
            due("0", herd(x, 5));
        });
        says("Returns the number of chairs that move.", () -> {
            for (int there = 0; there < 5; there++) {
                ChairMigration x = after("p01;c00;c00;c00;c00;c00");
                for (int chair = 0; chair < there; chair++) {
                    x.addChair(1, 0);
                }
                due(5 - there, x.migrate(0, 1));
                due(5, x.herdSize(1));
                due(there, x.herdSize(0));
            }
            due(1, after("p01;c00;c00;f0").migrate(0, 1));
        });
    }

    private static void migrateRefused() {
        says(NO_LAWN + ", for either argument", () -> {
            ChairMigration x = after("p05;c00;c50");
            noLawn(no -> x.migrate(no, 0));
            noLawn(no -> x.migrate(0, no));
            noLawn(no -> x.migrate(5, no));
            noLawn(no -> x.migrate(no, 5));
            noLawn(no -> x.migrate(no, no));
            due(0, x.moveCount());
        });
        says(REJECTION + "NO_PATH, NO_HERD or LAWN_FULL", () -> {
            ChairMigration x = after("p01;p12;p34;c00;c10;c10;c10;c10;c20;c20");
            dueRejection(x, ChairMigration.NO_PATH, 2, () -> x.migrate(0, 2));
            dueRejection(x, ChairMigration.NO_PATH, -1, () -> x.migrate(0, 3));
            dueRejection(x, ChairMigration.NO_PATH, 0, () -> x.migrate(0, 0));
            dueRejection(x, ChairMigration.NO_HERD, 0, () -> x.migrate(3, 4));
            due(1, x.migrate(0, 1));
            dueRejection(x, ChairMigration.LAWN_FULL, 1, () -> x.migrate(2, 1));
            x.fold(5);
            dueRejection(x, ChairMigration.LAWN_FULL, 1, () -> x.migrate(2, 1));
            x.fold(6);
            dueRejection(x, ChairMigration.NO_HERD, 2, () -> x.migrate(2, 1));
        });
    }

    private static void oilChair() {
        part("oilChair");
        says("Oils a chair: its rust decreases by 3, but not below 0, and the oil decreases by 1.", () -> {
            int[] want = {0, 0, 0, 0, 1, 2, 3, 4, 5, 6};
            for (int rust = 1; rust <= 9; rust++) {
                ChairMigration x = new ChairMigration();
                x.addChair(0, rust);
                x.addChair(0, 9);
                x.oilChair(0);
                due(want[rust], x.rustOf(0));
                due(9, x.rustOf(1));
                due(2, x.oil());
            }
        });
        says(CHAIR, () -> {
            ChairMigration x = rustyEnds();
            due(6, x.oilChair(0));
            due(5, x.oilChair(11));
        });
        says("Returns the rust of the chair after the call.", () -> {
            ChairMigration x = after("a5;c08;f0");
            due(5, x.oilChair(0));
            due(2, x.oilChair(0));
            due(0, x.oilChair(0));
        });
        says(NO_CHAIR, () -> {
            ChairMigration x = withGoneChairs();
            noChair(no -> x.oilChair(no));
            due(3, x.oil());
            dueThrow(NO_INDEX, () -> new ChairMigration().oilChair(0));
        });
        says(REJECTION + "NO_RUST or NO_OIL", () -> {
            ChairMigration x = after("c09;c01;c00;c02");
            dueRejection(x, ChairMigration.NO_RUST, 3, () -> x.oilChair(2));
            due(0, x.oilChair(1));
            dueRejection(x, ChairMigration.NO_RUST, 2, () -> x.oilChair(1));
            due(6, x.oilChair(0));
            due(3, x.oilChair(0));
            dueRejection(x, ChairMigration.NO_OIL, 3, () -> x.oilChair(0));
            dueRejection(x, ChairMigration.NO_OIL, 2, () -> x.oilChair(3));
            dueRejection(x, ChairMigration.NO_RUST, 0, () -> x.oilChair(2));
            due(0, x.oil());
            x.addOil(1);
            due(0, x.oilChair(0));
        });
    }

    private static void addOil() {
        part("addOil");
        says("Adds oil.", () -> {
            ChairMigration x = new ChairMigration();
            x.addOil(4);
            due(7, x.oil());
        });
        says("`units`: the units of oil, 1 to 10", () -> {
            for (int units = 1; units <= 10; units++) {
                due(3 + units, new ChairMigration().addOil(units));
            }
        });
        says("Returns the oil after the call.", () -> {
            ChairMigration x = new ChairMigration();
            due(13, x.addOil(10));
            due(20, x.addOil(7));
        });
        says("Throws `IllegalArgumentException` if units is out of range", () -> {
            ChairMigration x = new ChairMigration();
            outOfRange(units -> x.addOil(units), 0, 11, -1, 12, 17);
            due(3, x.oil());
        });
        says(REJECTION + "OIL_LIMIT", () -> {
            ChairMigration x = after("a10");
            dueRejection(x, ChairMigration.OIL_LIMIT, 13, () -> x.addOil(8));
            dueRejection(x, ChairMigration.OIL_LIMIT, 13, () -> x.addOil(10));
            due(20, x.addOil(7));
            dueRejection(x, ChairMigration.OIL_LIMIT, 20, () -> x.addOil(1));
            due(20, x.oil());
        });
    }

    private static void exists() {
        part("exists");
        says("Tells whether there is a chair with an id.", () -> {
            ChairMigration x = withGoneChairs();
            due(true, x.exists(0));
            due(false, x.exists(1));
            due(false, x.exists(2));
            due(true, x.exists(3));
            due(false, x.exists(4));
        });
        says("`chair`: any number", () -> {
            ChairMigration x = full();
            for (int number : new int[] {-1, 12, 13, Integer.MIN_VALUE, Integer.MAX_VALUE}) {
                due(false, x.exists(number));
            }
        });
        says("Returns whether there is a chair with this id.", () -> {
            ChairMigration x = full();
            for (int chair = 0; chair < 12; chair++) {
                due(true, x.exists(chair));
                due(false, new ChairMigration().exists(chair));
            }
        });
    }

    private static void lawnOf() {
        part("lawnOf");
        says("Returns the lawn of a chair.", () -> {
            ChairMigration x = after("p53;c50;c20;m0>3");
            due(3, x.lawnOf(0));
            due(2, x.lawnOf(1));
        });
        says(CHAIR, () -> {
            ChairMigration x = full();
            due(0, x.lawnOf(0));
            due(2, x.lawnOf(11));
        });
        says("Returns the index of the lawn.", () -> {
            ChairMigration x = after("c00;c10;c20;c30;c40;c50");
            eachLawn(chair -> x.lawnOf(chair), 0, 1, 2, 3, 4, 5);
        });
        says(NO_CHAIR, () -> noChair(no -> withGoneChairs().lawnOf(no)));
    }

    private static void rustOf() {
        part("rustOf");
        says("Returns the rust of a chair.", () -> {
            ChairMigration x = after("h0=0;c03;c04;c13;o1");
            x.passDays(1);
            due(4, x.rustOf(0));
            due(2, x.rustOf(1));
            due(3, x.rustOf(2));
        });
        says(CHAIR, () -> {
            ChairMigration x = rustyEnds();
            due(9, x.rustOf(0));
            due(0, x.rustOf(1));
            due(8, x.rustOf(11));
        });
        says("Returns the rust.", () -> {
            ChairMigration x = after("c00;c09");
            due(0, x.rustOf(0));
            due(9, x.rustOf(1));
        });
        says(NO_CHAIR, () -> noChair(no -> withGoneChairs().rustOf(no)));
    }

    private static void isFolded() {
        part("isFolded");
        says("Tells whether a chair is folded.", () -> {
            ChairMigration x = after("c00;c00;f1");
            due(false, x.isFolded(0));
            due(true, x.isFolded(1));
        });
        says(CHAIR, () -> {
            ChairMigration x = full();
            run(x, "f0;f11");
            due(true, x.isFolded(0));
            due(false, x.isFolded(10));
            due(true, x.isFolded(11));
        });
        says("Returns whether it is folded.", () -> {
            ChairMigration x = after("c00;f0;d20");
            due(true, x.isFolded(0));
            x.unfold(0);
            due(false, x.isFolded(0));
            x.undo();
            due(true, x.isFolded(0));
        });
        says(NO_CHAIR, () -> noChair(no -> withGoneChairs().isFolded(no)));
    }

    private static void ageOf() {
        part("ageOf");
        says("Returns the age of a chair.", () -> {
            ChairMigration x = after("c00;d4;c10;d3");
            due(7, x.ageOf(0));
            due(3, x.ageOf(1));
        });
        says(CHAIR, () -> {
            ChairMigration x = full();
            x.passDays(1);
            due(1, x.ageOf(0));
            due(1, x.ageOf(11));
        });
        says("Returns the number of days that have passed since it was added.", () -> {
            ChairMigration x = after("p01;d20;c05");
            due(0, x.ageOf(0));
            x.passDays(1);
            due(1, x.ageOf(0));
            run(x, "m0>1;o0;f0;u0");
            x.wouldCollapse(20);
            x.collapseDay(0);
            due(1, x.ageOf(0));
            x.passDays(14);
            due(15, x.ageOf(0));
        });
        says(NO_CHAIR, () -> noChair(no -> withGoneChairs().ageOf(no)));
    }

    private static void positionOf() {
        part("positionOf");
        says("Returns the position of a chair in its herd.", () -> {
            ChairMigration x = after("p01;c00;c10;c00;c10;m0>1");
            due(2, x.positionOf(0));
            due(0, x.positionOf(1));
            due(0, x.positionOf(2));
            due(1, x.positionOf(3));
            x.scrapChair(1);
            due(1, x.positionOf(0));
        });
        says(CHAIR, () -> {
            ChairMigration x = full();
            due(0, x.positionOf(0));
            due(1, x.positionOf(11));
        });
        says("Returns the position, from 0.", () -> {
            ChairMigration x = full();
            for (int chair = 0; chair < 12; chair++) {
                due(chair % 5, x.positionOf(chair));
            }
        });
        says(NO_CHAIR, () -> noChair(no -> withGoneChairs().positionOf(no)));
    }
}
