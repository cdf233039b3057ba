/** The terms of lawns, chairs, herds, days and oil. */
final class TermEdges extends Edges {
    static void all() {
        part("Terms");
        lawns();
        distancesAndRoutes();
        chairs();
        herds();
        days();
        grazing();
        rustAndCollapse();
        growth();
        oil();
    }

    private static void lawns() {
        says("There are 6 lawns, numbered from 0 to 5.", () -> {
            ChairMigration x = new ChairMigration();
            for (int lawn = 0; lawn < 6; lawn++) {
                due(lawn, x.addChair(lawn, 0));
                due(lawn, x.lawnOf(lawn));
                due(1, x.herdSize(lawn));
            }
            noLawn(no -> x.addChair(no, 0));
            noLawn(no -> x.herdSize(no));
            noLawn(no -> x.shadeOf(no));
        });
        says("Each lawn has a shade from 0 to 20, which is 5 at first.", () -> {
            ChairMigration x = new ChairMigration();
            due("5 5 5 5 5 5", shades(x));
            for (int lawn = 0; lawn < 6; lawn++) {
                x.setShade(lawn, lawn % 2 * 20);
            }
            due("0 20 0 20 0 20", shades(x));
            outOfRange(shade -> x.setShade(2, shade), -1, 21);
            run(x, "c00;c00;c10;d20");
            due(true, x.shadeOf(0) >= 0);
            due(20, x.shadeOf(3));
        });
        says("Two different lawns may be connected by a path; there are no paths at first.", () -> {
            ChairMigration x = new ChairMigration();
            due(0, x.pathCount());
            for (int number = 0; number < 36; number++) {
                int first = number / 6;
                int second = number % 6;
                due(false, x.isPath(first, second));
                if (first == second) {
                    dueThrow(BAD_ARGUMENT, () -> x.addPath(first, second));
                } else {
                    due(1, x.addPath(first, second));
                    due(true, x.isPath(first, second));
                    x.undo();
                }
            }
        });
        says("Two lawns with a path are neighbours.", () -> {
            ChairMigration x = after("p02;p25;h0=0;h2=0;h3=20;h5=20");
            due(2, x.bestNeighbour(0));
            due(5, x.bestNeighbour(2));
            due(2, x.bestNeighbour(5));
            dueThrow(NO_ELEMENT, () -> x.bestNeighbour(3));
        });
    }

    private static void distancesAndRoutes() {
        says("The distance of two lawns is the smallest number of paths that lead from one to the other; it is 0 for the "
            + "same lawn.", () -> {
                ChairMigration x = after("p01;p12;p23;p34;p45;p50;p14");
                eachLawn(lawn -> x.distance(0, lawn), 0, 1, 2, 3, 2, 1);
                eachLawn(lawn -> x.distance(lawn, 1), 1, 0, 1, 2, 1, 2);
                eachLawn(lawn -> x.distance(lawn, lawn), 0, 0, 0, 0, 0, 0);
                eachLawn(lawn -> x.distanceByImprovement(3, lawn), 3, 2, 1, 0, 1, 2);
                eachLawn(lawn -> new ChairMigration().distance(lawn, lawn), 0, 0, 0, 0, 0, 0);
            });
        says("The route from one lawn to another one has as many paths as their distance.", () -> {
            // The lawn with the lowest index is a neighbour, but leads astray.
            ChairMigration x = after("p30;p01;p12;p25;p34;p45");
            due("345", route(x, 3, 5));
            dueThrow(NO_ELEMENT, () -> x.routeAt(3, 5, 3));
            due("3", route(x, 3, 3));
            due("01", route(x, 0, 1));
        });
        says("Of several such routes, it is the one whose first step leads to the lawn with the lowest index; of those, the "
            + "one whose second step leads to the lawn with the lowest index, and so on.", () -> {
                ChairMigration x = after("p01;p02;p14;p23;p45;p35");
                due("0145", route(x, 0, 5));
                due("5320", route(x, 5, 0));
                ChairMigration second = after("p05;p54;p53;p42;p32");
                due("0532", route(second, 0, 2));
                due("2350", route(second, 2, 0));
                ChairMigration third = after("p05;p54;p43;p42;p31;p21");
                due("054", route(third, 0, 4));
                due("05421", route(third, 0, 1));
                due("12450", route(third, 1, 0));
            });
    }

    private static void chairs() {
        says("A chair is on one lawn.", () -> {
            ChairMigration x = after("p12;c10;m0>2");
            due(2, x.lawnOf(0));
            due("", herd(x, 1));
            due("0", herd(x, 2));
            eachLawn(lawn -> x.herdSizeByChairs(lawn), 0, 0, 1, 0, 0, 0);
        });
        says("There are at most 12 chairs.", () -> {
            ChairMigration x = new ChairMigration();
            for (int chair = 0; chair < 12; chair++) {
                due(chair, x.addChair(chair % 6, 0));
            }
            dueThrow(REJECTED, () -> x.addChair(0, 0));
            due(12, x.chairCount());
        });
        says("The first chair that is added gets the id 0, and every further one gets the next greater id, also if earlier "
            + "chairs have been removed.", () -> {
                ChairMigration x = new ChairMigration();
                due(0, x.addChair(0, 9));
                due(1, x.addChair(0, 0));
                x.scrapChair(1);
                due(2, x.addChair(0, 0));
                run(x, "h0=0;d1");
                due(false, x.exists(0));
                due(3, x.addChair(0, 0));
                run(x, "s2;s3");
                due(4, x.addChair(5, 0));
                dueThrow(BAD_ARGUMENT, () -> x.addChair(0, 10));
                due(5, x.addChair(5, 0));
            });
        says("A chair is on one lawn, and has a rust from 0 to 9.", () -> {
            ChairMigration x = after("c00;c09;c12;h0=20");
            outOfRange(rust -> x.addChair(0, rust), -1, 10);
            x.oilChair(2);
            due(0, x.rustOf(2));
            x.passDays(15);
            due(9, x.rustOf(1));
            x.passDays(1);
            due(false, x.exists(1));
            due(1, x.rustOf(0));
            due(0, x.lawnOf(0));
        });
        says("A chair is folded or not.", () -> {
            ChairMigration x = after("c00");
            due(false, x.isFolded(0));
            due(1, x.fold(0));
            due(true, x.isFolded(0));
            due(0, x.unfold(0));
            due(false, x.isFolded(0));
        });
    }

    private static void herds() {
        says("The chairs on a lawn are its herd, in the order in which they came to this lawn.", () -> {
            ChairMigration x = after("p01;c00;c10;c00;c00;c10;m0>1;m2>1");
            due("3", herd(x, 0));
            due("1 4 0 2", herd(x, 1));
            x.moveChair(1, 0);
            x.moveChair(1, 1);
            due("4 0 2 1", herd(x, 1));
            run(x, "s0;f2;u2");
            due("4 2 1", herd(x, 1));
            run(x, "c10;h1=2;d1");
            due("4 2 1 5", herd(x, 1));
        });
        says("A lawn has 5 places, so a herd has at most 5 chairs, folded ones included.", () -> {
            ChairMigration x = after("p01;c00;c00;c00;c00;f0;f1;f2;f3;c10");
            due(5, x.addChair(0, 0));
            due(5, x.herdSize(0));
            dueThrow(REJECTED, () -> x.addChair(0, 0));
            dueThrow(REJECTED, () -> x.moveChair(4, 0));
            dueThrow(REJECTED, () -> x.migrate(1, 0));
            x.scrapChair(3);
            due(1, x.moveChair(4, 0));
            due("0 1 2 5 4", herd(x, 0));
            dueThrow(REJECTED, () -> x.addChair(0, 0));
        });
    }

    private static void days() {
        says("The day number is 0 at first.", () -> {
            due(0, new ChairMigration().day());
            due(0, after("c00;p01").day());
        });
        says("Each season lasts 5 days: the days 0 to 4 are in spring, the days 5 to 9 in summer, the days 10 to 14 in "
            + "autumn, the days 15 to 19 in winter, the days 20 to 24 in spring, and so on.", () -> {
                ChairMigration x = new ChairMigration();
                String seasons = "00000111112222233333000001111122222333330";
                for (int day = 0; day < seasons.length(); day++) {
                    due(seasons.charAt(day) - '0', x.season());
                    x.passDays(1);
                }
            });
        // In which order is seen in no call: no lawn changes what happens on another one.
        says("When a day passes, the lawns are handled in the order of their indices.", () -> {
            ChairMigration x = after("h0=0;h5=0;c09;c29;c59;h2=1;c13");
            due(2, x.passDays(1));
            due("3 7 3 8 8 3", shades(x));
            due(2, x.grazedShade());
            due(true, x.exists(1));
        });
        says("After all lawns, the day number increases by 1.", () -> {
            ChairMigration x = after("h0=0;h5=0;d4");
            due("12 17 17 17 17 12", shades(x));
            // The fifth day is in spring on all lawns.
            x.passDays(1);
            due(5, x.day());
            due("15 20 20 20 20 15", shades(x));
            x.passDays(1);
            due(6, x.day());
            due("17 20 20 20 20 17", shades(x));
        });
    }

    private static void grazing() {
        says("On a lawn, the chairs that are not folded graze in the order of the herd: the shade of the lawn decreases by "
            + "1 if it is greater than 0; otherwise the rust of the chair increases by 1.", () -> {
                ChairMigration x = after("p12;c10;c10;c20;c10;f1;h1=1;m0>2;m0>1;h2=0");
                due("1 3 0", herd(x, 1));
                x.passDays(1);
                due(0, x.rustOf(1));
                due(0, x.rustOf(3));
                due(1, x.rustOf(0));
                due(1, x.rustOf(2));
                due(1, x.grazedShade());
                due(3, x.shadeOf(1));
                due(3, x.shadeOf(2));
                int[] rust = {5, 4, 3, 2, 1, 0, 0};
                for (int shade = 0; shade <= 6; shade++) {
                    ChairMigration herd = after("c00;c00;c00;c00;c00");
                    herd.setShade(0, shade);
                    herd.passDays(1);
                    due(rust[shade], herd.totalRust());
                    due(5 - rust[shade], herd.grazedShade());
                    due(shade - herd.grazedShade() + 3, herd.shadeOf(0));
                }
            });
    }

    private static void rustAndCollapse() {
        says("In winter, the rust of a chair that is not folded increases by 1 more.", () -> {
            ChairMigration x = after("c00;c10;f1;d14");
            due(0, x.rustOf(0));
            int[] want = {0, 1, 2, 3, 4, 5, 5};
            for (int rust : want) {
                x.passDays(1);
                due(rust, x.rustOf(0));
                due(0, x.rustOf(1));
            }
            ChairMigration hungry = after("d15;h0=1;c00;c00");
            pass(hungry, 2);
            due(3, hungry.rustOf(0));
            due(4, hungry.rustOf(1));
        });
        says("A chair whose rust is 10 or more then collapses: it is removed.", () -> {
            ChairMigration x = after("h0=0;c08;c09;c00;f1;h1=0;c19;c10");
            due(1, x.passDays(1));
            due(9, x.rustOf(0));
            due(9, x.rustOf(1));
            due(false, x.exists(3));
            due("0 1 2", herd(x, 0));
            due("4", herd(x, 1));
            due(4, x.chairCount());
            ChairMigration winter = after("d15;h0=0;c07;c08;c09;h1=9;c18;c19");
            due(3, winter.passDays(1));
            due("0", herd(winter, 0));
            due(9, winter.rustOf(0));
            due("3", herd(winter, 1));
            due(9, winter.rustOf(3));
            // A chair grazes before it collapses.
            due(2, winter.grazedShade());
        });
    }

    private static void growth() {
        says("After all chairs of the lawn, its shade grows by 3 in spring, by 2 in summer, by 1 in autumn and by 0 in "
            + "winter, but not above 20.", () -> {
                ChairMigration x = new ChairMigration();
                int[] growth = {3, 3, 3, 3, 3, 2, 2, 2, 2, 2, 1, 1, 1, 1, 1, 0, 0, 0, 0, 0, 3};
                for (int grown : growth) {
                    x.setShade(0, 7);
                    x.setShade(1, 20 - grown);
                    x.setShade(2, 21 - Math.max(1, grown));
                    x.setShade(3, 20);
                    x.setShade(4, 19 - grown);
                    x.setShade(5, 0);
                    x.passDays(1);
                    due(7 + grown + " 20 20 20 19 " + grown, shades(x));
                }
                ChairMigration hungry = after("h0=0;c00");
                hungry.passDays(1);
                due(1, hungry.rustOf(0));
                due(3, hungry.shadeOf(0));
                ChairMigration grazed = after("h0=20;c00;c00;c00;c00");
                grazed.passDays(1);
                due(19, grazed.shadeOf(0));
            });
    }

    private static void oil() {
        says("There is a store of oil with 0 to 20 units, and 3 at first.", () -> {
            ChairMigration x = after("c09");
            for (int oil = 3; oil > 0; oil--) {
                due(oil, x.oil());
                x.oilChair(0);
                x.undo();
                x.oilChair(0);
            }
            due(0, x.oil());
            dueThrow(REJECTED, () -> after("c09;o0;o0;o0;c09").oilChair(1));
            due(10, x.addOil(10));
            due(20, x.addOil(10));
            dueThrow(REJECTED, () -> x.addOil(1));
            due(20, x.oil());
        });
    }
}
