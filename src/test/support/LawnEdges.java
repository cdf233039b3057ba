/** Promises 1 to 11: a new object, paths, distances, routes and shade. */
final class LawnEdges extends Edges {
    private static final String NO_LAWN = "Throws `IndexOutOfBoundsException` if there is no such lawn";
    private static final String NO_LAWN_OF_BOTH = NO_LAWN + ", for either argument";
    private static final String SAME_LAWN = "Throws `IllegalArgumentException` if both arguments are the same lawn";
    private static final String NOT_REACHED =
        "Throws `NoSuchElementException` if the second lawn cannot be reached from the first one";
    private static final String FIRST = "`first`: the index of one lawn";
    private static final String SECOND = "`second`: the index of the other lawn";
    private static final String LAWN = "`lawn`: the index of a lawn, 0 to 5";

    private interface Distance {
        int of(ChairMigration x, int first, int second);
    }

    static void all() {
        newObject();
        addPath();
        addPathRefused();
        removePath();
        removePathRefused();
        isPath();
        distance();
        distanceByImprovement();
        routeAt();
        routeAtRefused();
        reachableLawns();
        pathCount();
        setShade();
        shadeOf();
    }

    private static void newObject() {
        part("A new object");
        says("Creates a garden without chairs and paths.", () -> {
            ChairMigration other = after("p01;c03;h2=9;a5;d3");
            ChairMigration x = new ChairMigration();
            due(0, x.chairCount());
            due(0, x.pathCount());
            due(false, x.exists(0));
            for (int lawn = 0; lawn < 6; lawn++) {
                due(0, x.herdSize(lawn));
                due(1, x.reachableLawns(lawn));
            }
            due(1, other.chairCount());
            due(1, other.pathCount());
        });
    }

    private static void addPath() {
        part("addPath");
        says("Adds a path between two lawns.", () -> {
            ChairMigration x = new ChairMigration();
            x.addPath(4, 2);
            for (int first = 0; first < 6; first++) {
                for (int second = 0; second < 6; second++) {
                    due(first == 4 && second == 2 || first == 2 && second == 4, x.isPath(first, second));
                }
            }
        });
        says(FIRST, () -> {
            ChairMigration x = new ChairMigration();
            due(1, x.addPath(0, 3));
            due(2, x.addPath(5, 3));
            due(true, x.isPath(0, 3));
            due(true, x.isPath(5, 3));
        });
        says(SECOND, () -> {
            ChairMigration x = new ChairMigration();
            due(1, x.addPath(3, 0));
            due(2, x.addPath(3, 5));
            due(true, x.isPath(3, 0));
            due(true, x.isPath(3, 5));
        });
        says("Returns the number of paths after the call.", () -> {
            ChairMigration x = new ChairMigration();
            int paths = 0;
            for (int first = 0; first < 6; first++) {
                for (int second = 0; second < first; second++) {
                    paths++;
                    due(paths, x.addPath(first, second));
                }
            }
            due(15, paths);
            x.removePath(2, 4);
            due(15, x.addPath(2, 4));
        });
    }

    private static void addPathRefused() {
        says(NO_LAWN_OF_BOTH, () -> {
            ChairMigration x = new ChairMigration();
            noLawn(no -> x.addPath(no, 0));
            noLawn(no -> x.addPath(0, no));
            noLawn(no -> x.addPath(no, 5));
            noLawn(no -> x.addPath(5, no));
            noLawn(no -> x.addPath(no, no));
            dueThrow(NO_INDEX, () -> x.addPath(-1, 6));
            due(0, x.pathCount());
        });
        says(SAME_LAWN, () -> {
            ChairMigration x = new ChairMigration();
            for (int number = 0; number < 6; number++) {
                int lawn = number;
                dueThrow(BAD_ARGUMENT, () -> x.addPath(lawn, lawn));
                due(false, x.isPath(lawn, lawn));
            }
            due(0, x.pathCount());
        });
        says("Throws `UnsupportedOperationException` if the call is rejected with the reason PATH_EXISTS", () -> {
            ChairMigration x = after("p05;p12");
            dueRejection(x, ChairMigration.PATH_EXISTS, 2, () -> x.addPath(0, 5));
            dueRejection(x, ChairMigration.PATH_EXISTS, 2, () -> x.addPath(5, 0));
            due(3, x.addPath(0, 1));
            x.removePath(0, 5);
            due(3, x.addPath(5, 0));
        });
    }

    private static void removePath() {
        part("removePath");
        says("Removes the path between two lawns.", () -> {
            ChairMigration x = after("p01;p02;p12");
            x.removePath(0, 2);
            due(false, x.isPath(0, 2));
            due(false, x.isPath(2, 0));
            due(true, x.isPath(0, 1));
            due(true, x.isPath(1, 2));
        });
        says(FIRST, () -> {
            ChairMigration x = after("p03;p53");
            due(1, x.removePath(0, 3));
            due(0, x.removePath(5, 3));
            due(false, x.isPath(3, 5));
        });
        says(SECOND, () -> {
            ChairMigration x = after("p03;p53");
            due(1, x.removePath(3, 0));
            due(0, x.removePath(3, 5));
            due(false, x.isPath(0, 3));
        });
        says("Returns the number of paths after the call.", () -> {
            ChairMigration x = new ChairMigration();
            for (int lawn = 0; lawn < 5; lawn++) {
                x.addPath(lawn, 5);
            }
            for (int lawn = 0; lawn < 5; lawn++) {
                due(4 - lawn, x.removePath(lawn, 5));
            }
            x.addPath(0, 1);
            due(0, x.removePath(1, 0));
        });
    }

    private static void removePathRefused() {
        says(NO_LAWN_OF_BOTH, () -> {
            ChairMigration x = after("p05");
            noLawn(no -> x.removePath(no, 0));
            noLawn(no -> x.removePath(0, no));
            noLawn(no -> x.removePath(no, 5));
            noLawn(no -> x.removePath(5, no));
            noLawn(no -> x.removePath(no, no));
            dueThrow(NO_INDEX, () -> x.removePath(-1, 6));
            due(1, x.pathCount());
        });
        says(SAME_LAWN, () -> {
            ChairMigration x = after("p01");
            for (int number = 0; number < 6; number++) {
                int lawn = number;
                dueThrow(BAD_ARGUMENT, () -> x.removePath(lawn, lawn));
            }
            dueThrow(NO_ELEMENT, () -> x.rejectionReason());
            due(1, x.pathCount());
        });
        says("Throws `UnsupportedOperationException` if the call is rejected with the reason NO_PATH", () -> {
            ChairMigration x = after("p01;p12");
            dueRejection(x, ChairMigration.NO_PATH, 2, () -> x.removePath(0, 2));
            dueRejection(x, ChairMigration.NO_PATH, -1, () -> x.removePath(3, 2));
            due(1, x.removePath(0, 1));
            dueRejection(x, ChairMigration.NO_PATH, -1, () -> x.removePath(0, 1));
            dueRejection(x, ChairMigration.NO_PATH, -1, () -> x.removePath(1, 0));
            due(1, x.pathCount());
        });
    }

    private static void isPath() {
        part("isPath");
        says("Tells whether there is a path between two lawns.", () -> {
            ChairMigration x = chain();
            for (int first = 0; first < 6; first++) {
                for (int second = 0; second < 6; second++) {
                    due(Math.abs(first - second) == 1, x.isPath(first, second));
                }
            }
        });
        says(FIRST, () -> {
            ChairMigration x = after("p03;p53");
            eachLawn(first -> x.isPath(first, 3), true, false, false, false, false, true);
        });
        says(SECOND, () -> {
            ChairMigration x = after("p30;p35");
            eachLawn(second -> x.isPath(3, second), true, false, false, false, false, true);
        });
        says("Returns whether there is a path; false if both arguments are the same lawn.", () -> {
            ChairMigration x = chain();
            x.addPath(5, 0);
            eachLawn(lawn -> x.isPath(lawn, lawn), false, false, false, false, false, false);
            due(true, x.isPath(0, 5));
            x.removePath(0, 5);
            due(false, x.isPath(0, 5));
            due(false, x.isPath(5, 0));
        });
        says(NO_LAWN_OF_BOTH, () -> {
            ChairMigration x = chain();
            noLawn(no -> x.isPath(no, 0));
            noLawn(no -> x.isPath(5, no));
            noLawn(no -> x.isPath(no, no));
        });
    }

    private static void distance() {
        part("distance");
        says("Returns the distance of two lawns, found by a breadth-first search.", () -> {
            ChairMigration x = chain();
            eachLawn(lawn -> x.distance(0, lawn), 0, 1, 2, 3, 4, 5);
            x.addPath(5, 0);
            eachLawn(lawn -> x.distance(0, lawn), 0, 1, 2, 3, 2, 1);
        });
        bothWays("Returns the distance.", (x, first, second) -> x.distance(first, second));
    }

    private static void distanceByImprovement() {
        part("distanceByImprovement");
        says("Returns the distance of two lawns in a second way: by improving an upper bound for all pairs of lawns until "
            + "nothing changes.", () -> {
                // A chain in an order in which one round of improvement isn't enough.
                ChairMigration x = after("p05;p53;p31;p14;p42");
                eachLawn(lawn -> x.distanceByImprovement(0, lawn), 0, 3, 5, 2, 4, 1);
                eachLawn(lawn -> x.distanceByImprovement(lawn, 2), 5, 2, 0, 3, 1, 4);
            });
        bothWays("Returns the same distance.", (x, first, second) -> x.distanceByImprovement(first, second));
    }

    /** What the document says alike of both ways to find a distance. */
    private static void bothWays(String answer, Distance way) {
        says(FIRST, () -> {
            ChairMigration x = chain();
            eachLawn(first -> way.of(x, first, 2), 2, 1, 0, 1, 2, 3);
        });
        says(SECOND, () -> {
            ChairMigration x = chain();
            eachLawn(second -> way.of(x, 4, second), 4, 3, 2, 1, 0, 1);
        });
        says(answer, () -> {
            ChairMigration x = after("p05;p51;p14;p04");
            due(0, way.of(x, 0, 0));
            due(1, way.of(x, 4, 0));
            due(2, way.of(x, 0, 1));
            x.removePath(0, 4);
            due(3, way.of(x, 0, 4));
        });
        says(NO_LAWN_OF_BOTH, () -> {
            ChairMigration x = chain();
            noLawn(no -> way.of(x, no, 0));
            noLawn(no -> way.of(x, 5, no));
            noLawn(no -> way.of(x, no, no));
        });
        says(NOT_REACHED, () -> {
            ChairMigration x = after("p01;p23;p34;p45");
            dueThrow(NO_ELEMENT, () -> way.of(x, 1, 2));
            dueThrow(NO_ELEMENT, () -> way.of(x, 5, 0));
            due(3, way.of(x, 5, 2));
            x.addPath(1, 2);
            due(5, way.of(x, 5, 0));
        });
    }

    private static void routeAt() {
        part("routeAt");
        says("Returns a lawn on the route from one lawn to another one.", () -> {
            ChairMigration x = after("p04;p41;p13");
            due("0413", route(x, 0, 3));
            due("3140", route(x, 3, 0));
        });
        says(FIRST, () -> {
            ChairMigration x = chain();
            eachLawn(first -> x.routeAt(first, 2, 0), 0, 1, 2, 3, 4, 5);
            due("012", route(x, 0, 2));
            due("5432", route(x, 5, 2));
        });
        says(SECOND, () -> {
            ChairMigration x = chain();
            due("210", route(x, 2, 0));
            due("2345", route(x, 2, 5));
        });
        says("`position`: the position on the route; 0 is the first lawn", () -> {
            ChairMigration x = chain();
            for (int position = 0; position <= 5; position++) {
                due(5 - position, x.routeAt(5, 0, position));
            }
            due(3, x.routeAt(3, 3, 0));
        });
        says("Returns the index of the lawn at this position.", () -> {
            ChairMigration x = after("p02;p25;p51");
            due(0, x.routeAt(0, 1, 0));
            due(2, x.routeAt(0, 1, 1));
            due(5, x.routeAt(0, 1, 2));
            due(1, x.routeAt(0, 1, 3));
        });
    }

    private static void routeAtRefused() {
        says(NO_LAWN_OF_BOTH, () -> {
            ChairMigration x = chain();
            noLawn(no -> x.routeAt(no, 0, 0));
            noLawn(no -> x.routeAt(5, no, 0));
            noLawn(no -> x.routeAt(no, no, 0));
            noLawn(no -> x.routeAt(no, 0, -1));
        });
        says(NOT_REACHED + ", or position is negative or greater than the distance", () -> {
            ChairMigration x = after("p01;p12;p34");
            noPosition(position -> x.routeAt(0, 3, position), 0, 1, -1, -2);
            noPosition(position -> x.routeAt(4, 2, position), 0, 1, -1, -2);
            noPosition(position -> x.routeAt(0, 2, position), -1, 3, 4, 6);
            noPosition(position -> x.routeAt(5, 5, position), -1, 1, 2);
            due(2, x.routeAt(0, 2, 2));
            due(5, x.routeAt(5, 5, 0));
        });
    }

    private static void reachableLawns() {
        part("reachableLawns");
        says("Returns the number of lawns that can be reached from a lawn, the lawn itself included.", () -> {
            ChairMigration x = new ChairMigration();
            eachLawn(lawn -> x.reachableLawns(lawn), 1, 1, 1, 1, 1, 1);
            run(x, "p05;p53;p31;p14;p42");
            eachLawn(lawn -> x.reachableLawns(lawn), 6, 6, 6, 6, 6, 6);
        });
        says(LAWN, () -> {
            ChairMigration x = after("p01;p12;p34");
            eachLawn(lawn -> x.reachableLawns(lawn), 3, 3, 3, 2, 2, 1);
        });
        says("Returns the number of lawns.", () -> {
            ChairMigration x = chain();
            for (int lawn = 5; lawn > 0; lawn--) {
                x.removePath(lawn, lawn - 1);
                due(lawn, x.reachableLawns(0));
            }
        });
        says(NO_LAWN, () -> noLawn(no -> chain().reachableLawns(no)));
    }

    private static void pathCount() {
        part("pathCount");
        says("Returns the number of paths.", () -> {
            ChairMigration x = new ChairMigration();
            due(0, x.pathCount());
            for (int first = 0; first < 6; first++) {
                for (int second = 0; second < first; second++) {
                    x.addPath(first, second);
                }
            }
            due(15, x.pathCount());
            dueThrow(REJECTED, () -> x.addPath(0, 1));
            due(15, x.pathCount());
            x.removePath(0, 1);
            due(14, x.pathCount());
            dueThrow(REJECTED, () -> x.removePath(0, 1));
            due(14, x.pathCount());
        });
    }

    private static void setShade() {
        part("setShade");
        says("Sets the shade of a lawn.", () -> {
            ChairMigration x = new ChairMigration();
            x.setShade(3, 17);
            due("5 5 5 17 5 5", shades(x));
        });
        says(LAWN, () -> {
            ChairMigration x = new ChairMigration();
            x.setShade(0, 1);
            x.setShade(5, 2);
            due("1 5 5 5 5 2", shades(x));
        });
        says("`shade`: the new shade, 0 to 20", () -> {
            ChairMigration x = new ChairMigration();
            for (int shade = 0; shade <= 20; shade++) {
                x.setShade(1, shade);
                due(shade, x.shadeOf(1));
            }
        });
        says("Returns the previous shade.", () -> {
            ChairMigration x = new ChairMigration();
            due(5, x.setShade(1, 0));
            due(0, x.setShade(1, 20));
            due(20, x.setShade(1, 20));
            due(20, x.setShade(1, 3));
            due(5, x.setShade(2, 3));
        });
        says(NO_LAWN, () -> {
            ChairMigration x = new ChairMigration();
            noLawn(no -> x.setShade(no, 0));
            noLawn(no -> x.setShade(no, 20));
            noLawn(no -> x.setShade(no, 21));
            due("5 5 5 5 5 5", shades(x));
        });
        says("Throws `IllegalArgumentException` if shade is out of range", () -> {
            ChairMigration x = new ChairMigration();
            outOfRange(shade -> x.setShade(0, shade), -1, 21, -2, 22);
            due("5 5 5 5 5 5", shades(x));
        });
    }

    private static void shadeOf() {
        part("shadeOf");
        says("Returns the shade of a lawn.", () -> {
            ChairMigration x = after("h4=12;c40");
            due(12, x.shadeOf(4));
            x.passDays(1);
            due(14, x.shadeOf(4));
        });
        says(LAWN, () -> {
            ChairMigration x = after("h0=1;h1=2;h2=3;h3=4;h5=6");
            eachLawn(lawn -> x.shadeOf(lawn), 1, 2, 3, 4, 5, 6);
        });
        says("Returns the shade.", () -> {
            ChairMigration x = after("h0=0;h5=20");
            due(0, x.shadeOf(0));
            due(20, x.shadeOf(5));
        });
        says(NO_LAWN, () -> noLawn(no -> new ChairMigration().shadeOf(no)));
    }
}
