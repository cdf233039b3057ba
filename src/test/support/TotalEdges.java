/** Promises 38 to 51: totals, orders, means and the check of the data. */
final class TotalEdges extends Edges {
    private static final String POSITION = "`position`: the position, from 0";
    private static final String NO_POSITION = "Throws `NoSuchElementException` if there is no such position";
    private static final String NO_CHAIRS_AT_ALL = "Throws `ArithmeticException` if there are no chairs";

    static void all() {
        chairCount();
        foldedCount();
        oil();
        totalRust();
        totalRustByHerds();
        collapsedChairs();
        scrappedChairs();
        moveCount();
        grazedShade();
        chairByRust();
        lawnByShade();
        meanRust();
        foldedShare();
        isConsistent();
    }

    private static void chairCount() {
        part("chairCount");
        says("Returns the number of chairs.", () -> {
            ChairMigration x = new ChairMigration();
            for (int chairs = 0; chairs < 12; chairs++) {
                due(chairs, x.chairCount());
                x.addChair(chairs / 5, 9);
            }
            due(12, x.chairCount());
            dueThrow(REJECTED, () -> x.addChair(5, 0));
            due(12, x.chairCount());
            run(x, "f0;s1;h1=2;d1");
            due(8, x.chairCount());
        });
    }

    private static void foldedCount() {
        part("foldedCount");
        says("Returns the number of folded chairs.", () -> {
            ChairMigration x = full();
            for (int chair = 0; chair < 12; chair++) {
                due(chair, x.foldedCount());
                x.fold(chair);
            }
            due(12, x.foldedCount());
            x.scrapChair(11);
            due(11, x.foldedCount());
        });
        says("Returns the number of chairs.", () -> {
            ChairMigration x = after("c00;c00;f0;f1;u0");
            due(1, x.foldedCount());
            x.undo();
            due(0, x.foldedCount());
        });
    }

    private static void oil() {
        part("oil");
        says("Returns the oil.", () -> {
            ChairMigration x = after("c09");
            due(3, x.oil());
            x.oilChair(0);
            due(2, x.oil());
            x.addOil(5);
            due(7, x.oil());
        });
        says("Returns the units of oil.", () -> {
            ChairMigration x = after("c09;o0;o0;o0");
            due(0, x.oil());
            run(x, "a10;a10");
            due(20, x.oil());
        });
    }

    private static void totalRust() {
        part("totalRust");
        bothWays("Returns the sum of the rust of all chairs, in the order of their ids.", "Returns the sum.",
            x -> x.totalRust());
    }

    private static void totalRustByHerds() {
        part("totalRustByHerds");
        bothWays("Returns the same sum in a second way: herd by herd.", "Returns the same sum.", x -> x.totalRustByHerds());
    }

    /** What the document says alike of both ways to sum up the rust. */
    private static void bothWays(String sentence, String answer, CallOf way) {
        says(sentence, () -> {
            ChairMigration x = after("c01;c12;c24;f1");
            due(7, way.of(x));
            run(x, "s2;h0=0;d1;o1");
            due(2, way.of(x));
        });
        says(answer, () -> {
            ChairMigration x = new ChairMigration();
            due(0, way.of(x));
            for (int chair = 0; chair < 12; chair++) {
                x.addChair(5 - chair / 5, 9);
            }
            due(108, way.of(x));
        });
    }

    private static void collapsedChairs() {
        part("collapsedChairs");
        says("Returns how many chairs have collapsed so far.", () -> {
            ChairMigration x = after("h0=0;h1=0;c09;c09;c19;f1;s1");
            due(0, x.collapsedChairs());
            x.wouldCollapse(20);
            x.collapseDay(0);
            due(0, x.collapsedChairs());
            x.passDays(1);
            due(2, x.collapsedChairs());
        });
        says("Returns the number of chairs.", () -> {
            ChairMigration x = new ChairMigration();
            for (int times = 1; times <= 10; times++) {
                run(x, "h0=0;c09;c09;d1");
                due(2 * times, x.collapsedChairs());
            }
            x.undo();
            due(18, x.collapsedChairs());
        });
    }

    private static void scrappedChairs() {
        part("scrappedChairs");
        says("Returns how many chairs have been scrapped so far.", () -> {
            ChairMigration x = after("h0=0;c09;c10;c10;d1");
            due(0, x.scrappedChairs());
            x.scrapChair(1);
            due(1, x.scrappedChairs());
            dueThrow(NO_INDEX, () -> x.scrapChair(1));
            due(1, x.scrappedChairs());
        });
        says("Returns the number of chairs.", () -> {
            ChairMigration x = new ChairMigration();
            for (int times = 1; times <= 15; times++) {
                x.scrapChair(x.addChair(0, 0));
                due(times, x.scrappedChairs());
            }
            x.undo();
            due(14, x.scrappedChairs());
        });
    }

    private static void moveCount() {
        part("moveCount");
        says("Returns how often chairs have moved from one lawn to another one so far, alone or with a herd.", () -> {
            ChairMigration x = after("p01;c00;c00;c00;f2");
            due(0, x.moveCount());
            x.moveChair(0, 1);
            due(1, x.moveCount());
            x.migrate(0, 1);
            due(2, x.moveCount());
            x.migrate(1, 0);
            due(4, x.moveCount());
        });
        says("Returns the number of moves.", () -> {
            ChairMigration x = after("p01;c00");
            for (int times = 1; times <= 10; times++) {
                x.moveChair(0, times % 2);
                due(times, x.moveCount());
            }
            dueThrow(REJECTED, () -> x.moveChair(0, 0));
            due(10, x.moveCount());
            x.undo();
            due(9, x.moveCount());
        });
    }

    private static void grazedShade() {
        part("grazedShade");
        says("Returns how much shade has been grazed so far.", () -> {
            ChairMigration x = after("h0=2;c00;c00;c00;c00;f0;c10");
            due(0, x.grazedShade());
            x.wouldCollapse(20);
            due(0, x.grazedShade());
            x.passDays(1);
            due(3, x.grazedShade());
            x.passDays(1);
            due(7, x.grazedShade());
            x.setShade(0, 0);
            due(7, x.grazedShade());
        });
        says("Returns the shade.", () -> {
            ChairMigration x = after("h0=20;c00;c00;c00;c00;c00");
            x.passDays(3);
            due(15, x.grazedShade());
            x.undo();
            due(0, x.grazedShade());
        });
    }

    private static void chairByRust() {
        part("chairByRust");
        says("Returns a chair in the order of rust, the most rust first.", () -> {
            ChairMigration x = after("c03;c19;c20;c05");
            int[] want = {1, 3, 0, 2};
            for (int position = 0; position < 4; position++) {
                due(want[position], x.chairByRust(position));
            }
            x.oilChair(1);
            x.oilChair(1);
            due(3, x.chairByRust(0));
            due(0, x.chairByRust(1));
            due(1, x.chairByRust(2));
        });
        says("Of chairs with the same rust, the older one comes first, then the one with the lower id.", () -> {
            ChairMigration x = after("p01;c04;c04;c14;d1;c04;c34;m0>1", "f1");
            int[] want = {0, 1, 2, 3, 4};
            for (int position = 0; position < 5; position++) {
                due(want[position], x.chairByRust(position));
            }
        });
        says(POSITION, () -> {
            ChairMigration x = full();
            for (int position = 0; position < 12; position++) {
                due(position, x.chairByRust(position));
            }
        });
        says("Returns the id of the chair.", () -> {
            ChairMigration x = after("c00;c00;s0;c09;s1");
            due(2, x.chairByRust(0));
        });
        says(NO_POSITION, () -> {
            noPosition(position -> new ChairMigration().chairByRust(position), -1, 0, 1);
            noPosition(position -> full().chairByRust(position), -1, 12, 13);
            ChairMigration x = full();
            x.scrapChair(4);
            noPosition(position -> x.chairByRust(position), -1, 11, 12);
            due(11, x.chairByRust(10));
        });
    }

    private static void lawnByShade() {
        part("lawnByShade");
        says("Returns a lawn in the order of shade, the most shade first.", () -> {
            ChairMigration x = after("h0=3;h1=0;h2=20;h3=19;h4=4;c20;c20");
            int[] want = {2, 3, 5, 4, 0, 1};
            for (int position = 0; position < 6; position++) {
                due(want[position], x.lawnByShade(position));
            }
        });
        says("Of lawns with the same shade, the one with the smaller herd comes first, then the one with the lower index.",
            () -> {
                ChairMigration x = after("c00;c00;c20;c30;c30;f0;c40;h5=4");
                int[] want = {1, 2, 4, 0, 3, 5};
                for (int position = 0; position < 6; position++) {
                    due(want[position], x.lawnByShade(position));
                }
            });
        says(POSITION, () -> {
            ChairMigration x = new ChairMigration();
            eachLawn(position -> x.lawnByShade(position), 0, 1, 2, 3, 4, 5);
        });
        says("Returns the index of the lawn.", () -> {
            ChairMigration x = after("h5=6;h0=0");
            due(5, x.lawnByShade(0));
            due(0, x.lawnByShade(5));
        });
        says(NO_POSITION, () -> noPosition(position -> full().lawnByShade(position), -1, 6, 7));
    }

    private static void meanRust() {
        part("meanRust");
        says("Returns the mean rust of all chairs: the sum divided by their number, both converted to double.", () -> {
            due(10.0 / 3.0, after("c01;c02;c17;f2").meanRust());
            due(1.0 / 7.0, after("c00;c00;c00;c00;c00;c10;c11").meanRust());
        });
        says("Returns the mean rust.", () -> {
            due(0.0, after("c00").meanRust());
            due(9.0, after("c09").meanRust());
            due(0.0, full().meanRust());
        });
        says(NO_CHAIRS_AT_ALL, () -> {
            dueThrow(NO_NUMBER, () -> new ChairMigration().meanRust());
            ChairMigration x = after("c05");
            due(5.0, x.meanRust());
            x.scrapChair(0);
            dueThrow(NO_NUMBER, () -> x.meanRust());
        });
    }

    private static void foldedShare() {
        part("foldedShare");
        says("Returns the share of folded chairs among all chairs, both numbers converted to float.", () -> {
            due(1.0f / 3.0f, after("c01;c02;c17;f2").foldedShare());
            due(5.0f / 7.0f, after("c00;c00;c00;c00;c00;c10;c11;f0;f1;f2;f3;f4").foldedShare());
        });
        says("Returns the share.", () -> {
            due(0.0f, full().foldedShare());
            due(1.0f, after("c00;f0").foldedShare());
        });
        says(NO_CHAIRS_AT_ALL, () -> {
            dueThrow(NO_NUMBER, () -> new ChairMigration().foldedShare());
            ChairMigration x = after("c05;f0");
            due(1.0f, x.foldedShare());
            x.scrapChair(0);
            dueThrow(NO_NUMBER, () -> x.foldedShare());
        });
    }

    /** That it can be false is seen in no call: the data always agrees. */
    private static void isConsistent() {
        part("isConsistent");
        says("Checks the data: both ways to compute distances agree for all pairs of lawns, both ways to count herds agree "
            + "for all lawns, both sums of rust are equal, and every chair is in the herd of one lawn.", () -> {
                ChairMigration x = after("p05;p53;p31;p14;p42");
                due(true, x.isConsistent());
                run(x, "c00;c00;c59;c59;g0>5;m0>3;f2;s1");
                due(true, x.isConsistent());
                run(x, "q31;h5=0;d1");
                due(true, x.isConsistent());
                x.undo();
                due(true, x.isConsistent());
            });
        says("Returns whether all this is true.", () -> {
            due(true, new ChairMigration().isConsistent());
            due(true, full().isConsistent());
            ChairMigration x = full();
            x.saveSnapshot();
            run(x, "h0=0;h1=0;d20;d20");
            due(true, x.isConsistent());
            x.restoreSnapshot();
            due(true, x.isConsistent());
        });
    }
}
