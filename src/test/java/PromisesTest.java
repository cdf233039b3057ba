import java.util.Arrays;

/** For each promise of the document its ordinary answers, its named edges and its wrong inputs. */
public final class PromisesTest extends Checks {
    private static void promise1() {
        ChairMigration x = new ChairMigration();
        due(0, x.chairCount());
        due(0, x.pathCount());
        due(0, x.day());
        due(0, x.season());
        due(3, x.oil());
        due(0, x.foldedCount());
        due(0, x.totalRust());
        due(0, x.totalRustByHerds());
        due(0, x.collapsedChairs());
        due(0, x.scrappedChairs());
        due(0, x.moveCount());
        due(0, x.grazedShade());
        due(true, x.isConsistent());
        for (int lawn = 0; lawn < 6; lawn++) {
            due(5, x.shadeOf(lawn));
            due(0, x.herdSize(lawn));
            for (int other = 0; other < 6; other++) {
                due(false, x.isPath(lawn, other));
            }
        }
    }

    private static void promise2() {
        ChairMigration x = new ChairMigration();
        due(1, x.addPath(0, 5));
        due(2, x.addPath(5, 1));
        due(true, x.isPath(0, 5));
        due(true, x.isPath(5, 0));
        due(true, x.isPath(1, 5));
        due(false, x.isPath(0, 1));
        dueRejection(x, ChairMigration.PATH_EXISTS, 2, () -> x.addPath(0, 5));
        dueRejection(x, ChairMigration.PATH_EXISTS, 2, () -> x.addPath(5, 0));
        dueThrow(BAD_ARGUMENT, () -> x.addPath(3, 3));
        for (int no : NO_LAWNS) {
            dueThrow(NO_INDEX, () -> x.addPath(no, 0));
            dueThrow(NO_INDEX, () -> x.addPath(0, no));
            dueThrow(NO_INDEX, () -> x.addPath(no, no));
        }
        due(2, x.pathCount());
        for (int first = 0; first < 6; first++) {
            for (int second = first + 1; second < 6; second++) {
                if (!x.isPath(first, second)) {
                    x.addPath(first, second);
                }
            }
        }
        due(15, x.pathCount());
        dueRejection(x, 1, 15, () -> x.addPath(4, 3));
    }

    private static void promise3() {
        ChairMigration x = after("p01;p12;p34;p05");
        due(3, x.removePath(1, 0));
        due(false, x.isPath(0, 1));
        due(false, x.isPath(1, 0));
        due(true, x.isPath(1, 2));
        due(true, x.isPath(0, 5));
        dueRejection(x, ChairMigration.NO_PATH, -1, () -> x.removePath(0, 1));
        x.addPath(5, 1);
        dueRejection(x, ChairMigration.NO_PATH, 2, () -> x.removePath(0, 1));
        dueRejection(x, ChairMigration.NO_PATH, 3, () -> x.removePath(2, 0));
        dueThrow(BAD_ARGUMENT, () -> x.removePath(2, 2));
        for (int no : NO_LAWNS) {
            dueThrow(NO_INDEX, () -> x.removePath(no, 0));
            dueThrow(NO_INDEX, () -> x.removePath(0, no));
            dueThrow(NO_INDEX, () -> x.removePath(no, no));
        }
        due(4, x.pathCount());
    }

    private static void promise4() {
        ChairMigration x = after("p02;p24");
        due(true, x.isPath(0, 2));
        due(true, x.isPath(2, 0));
        due(true, x.isPath(4, 2));
        due(false, x.isPath(0, 4));
        due(false, x.isPath(2, 2));
        for (int no : NO_LAWNS) {
            dueThrow(NO_INDEX, () -> x.isPath(no, 0));
            dueThrow(NO_INDEX, () -> x.isPath(0, no));
        }
    }

    private static void promises5And6() {
        ChairMigration x = after("p50;p04;p41;p13");
        int[][] want = {{0, 2, -1, 3, 1, 1}, {2, 0, -1, 1, 1, 3}, {-1, -1, 0, -1, -1, -1},
            {3, 1, -1, 0, 2, 4}, {1, 1, -1, 2, 0, 2}, {1, 3, -1, 4, 2, 0}};
        for (int first = 0; first < 6; first++) {
            for (int second = 0; second < 6; second++) {
                int from = first;
                int to = second;
                if (want[from][to] < 0) {
                    dueThrow(NO_ELEMENT, () -> x.distance(from, to));
                    dueThrow(NO_ELEMENT, () -> x.distanceByImprovement(from, to));
                } else {
                    due(want[from][to], x.distance(from, to));
                    due(want[from][to], x.distanceByImprovement(from, to));
                }
            }
        }
        x.addPath(3, 2);
        due(5, x.distance(5, 2));
        due(5, x.distanceByImprovement(2, 5));
        x.addPath(5, 2);
        due(1, x.distance(5, 2));
        due(1, x.distanceByImprovement(2, 5));
        due(3, x.distance(1, 5));
        for (int no : NO_LAWNS) {
            dueThrow(NO_INDEX, () -> x.distance(no, 0));
            dueThrow(NO_INDEX, () -> x.distance(0, no));
            dueThrow(NO_INDEX, () -> x.distanceByImprovement(no, 0));
            dueThrow(NO_INDEX, () -> x.distanceByImprovement(0, no));
        }
    }

    /** In some of these chains an improvement only follows from an improvement that is found later. */
    private static void distancesInEveryChain() {
        for (int number = 0; number < 46656; number++) {
            int[] chain = new int[6];
            int seen = 0;
            for (int i = 0, rest = number; i < 6; i++, rest /= 6) {
                chain[i] = rest % 6;
                seen |= 1 << chain[i];
            }
            if (seen == 63) {
                distancesInChain(chain);
            }
        }
    }

    private static void distancesInChain(int[] chain) {
        ChairMigration x = new ChairMigration();
        for (int i = 0; i < 5; i++) {
            x.addPath(chain[i], chain[i + 1]);
        }
        due(true, x.isConsistent());
        for (int i = 0; i < 6; i++) {
            due(Math.abs(i - 2), x.distance(chain[2], chain[i]));
            due(i, x.distanceByImprovement(chain[0], chain[i]));
            due(chain[i], x.routeAt(chain[0], chain[5], i));
        }
    }

    private static void promise7() {
        ChairMigration x = after("p05;p01;p54;p13;p14;p42;p32");
        int[] route = {0, 1, 3, 2};
        int[] back = {2, 3, 1, 0};
        for (int position = 0; position < 4; position++) {
            due(route[position], x.routeAt(0, 2, position));
            due(back[position], x.routeAt(2, 0, position));
        }
        due(4, x.routeAt(5, 2, 1));
        due(3, x.routeAt(3, 3, 0));
        dueThrow(NO_ELEMENT, () -> x.routeAt(3, 3, 1));
        dueThrow(NO_ELEMENT, () -> x.routeAt(0, 2, 4));
        dueThrow(NO_ELEMENT, () -> x.routeAt(0, 2, -1));
        dueThrow(NO_ELEMENT, () -> x.routeAt(0, 2, Integer.MAX_VALUE));
        ChairMigration fresh = new ChairMigration();
        dueThrow(NO_ELEMENT, () -> fresh.routeAt(0, 1, 0));
        dueThrow(NO_ELEMENT, () -> fresh.routeAt(0, 1, -1));
        due(0, fresh.routeAt(0, 0, 0));
        for (int no : NO_LAWNS) {
            dueThrow(NO_INDEX, () -> x.routeAt(no, 0, 0));
            dueThrow(NO_INDEX, () -> x.routeAt(0, no, -1));
        }
    }

    private static void promise8() {
        ChairMigration x = new ChairMigration();
        due(1, x.reachableLawns(3));
        run(x, "p01;p12;p23;p34");
        due(5, x.reachableLawns(0));
        due(5, x.reachableLawns(4));
        due(1, x.reachableLawns(5));
        x.addPath(4, 5);
        due(6, x.reachableLawns(0));
        x.removePath(1, 2);
        due(2, x.reachableLawns(1));
        due(4, x.reachableLawns(5));
        for (int no : NO_LAWNS) {
            dueThrow(NO_INDEX, () -> x.reachableLawns(no));
        }
    }

    private static void promise9() {
        ChairMigration x = new ChairMigration();
        due(0, x.pathCount());
        x.addPath(1, 2);
        x.addPath(4, 2);
        due(2, x.pathCount());
        dueThrow(REJECTED, () -> x.addPath(2, 1));
        due(2, x.pathCount());
        x.removePath(2, 1);
        due(1, x.pathCount());
    }

    private static void promises10And11() {
        ChairMigration x = new ChairMigration();
        due(5, x.setShade(2, 0));
        due(0, x.setShade(2, 20));
        due(20, x.shadeOf(2));
        due(20, x.setShade(2, 20));
        due(5, x.shadeOf(1));
        due(5, x.shadeOf(3));
        for (int shade : new int[] {-1, 21, Integer.MIN_VALUE, Integer.MAX_VALUE}) {
            dueThrow(BAD_ARGUMENT, () -> x.setShade(2, shade));
            dueThrow(NO_INDEX, () -> x.setShade(6, shade));
        }
        due(20, x.shadeOf(2));
        for (int no : NO_LAWNS) {
            dueThrow(NO_INDEX, () -> x.setShade(no, 0));
            dueThrow(NO_INDEX, () -> x.shadeOf(no));
        }
    }

    private static void promise12() {
        ChairMigration x = new ChairMigration();
        due(0, x.addChair(0, 0));
        due(1, x.addChair(0, 9));
        due(9, x.rustOf(1));
        due(false, x.isFolded(1));
        due(1, x.chairAt(0, 1));
        x.scrapChair(1);
        due(2, x.addChair(0, 1));
        run(x, "c00;c00;c00;c10;c10;c10;c10;c10;c20");
        dueRejection(x, ChairMigration.LAWN_FULL, 0, () -> x.addChair(0, 0));
        due(12, x.addChair(2, 4));
        due(12, x.chairCount());
        dueRejection(x, ChairMigration.CHAIR_LIMIT, 12, () -> x.addChair(0, 0));
        dueRejection(x, ChairMigration.CHAIR_LIMIT, 12, () -> x.addChair(3, 0));
        x.scrapChair(0);
        due(13, x.addChair(0, 0));
        due(4, x.positionOf(13));
        for (int rust : new int[] {-1, 10, Integer.MIN_VALUE, Integer.MAX_VALUE}) {
            dueThrow(BAD_ARGUMENT, () -> x.addChair(0, rust));
            dueThrow(NO_INDEX, () -> x.addChair(-1, rust));
        }
        for (int no : NO_LAWNS) {
            dueThrow(NO_INDEX, () -> x.addChair(no, 0));
        }
        ChairMigration reused = after("c05;f0;s0;c12");
        due(false, reused.isFolded(1));
    }

    private static void promise13() {
        ChairMigration x = after("c03;c04;c15;f1");
        due(4, x.scrapChair(1));
        due(false, x.exists(1));
        due(2, x.chairCount());
        due(0, x.foldedCount());
        due(1, x.herdSize(0));
        dueThrow(NO_INDEX, () -> x.scrapChair(1));
        due(1, x.scrappedChairs());
        due(3, x.scrapChair(0));
        due(0, x.positionOf(2));
        due(2, x.scrappedChairs());
        due(0, x.collapsedChairs());
        for (int no : NO_CHAIRS) {
            dueThrow(NO_INDEX, () -> x.scrapChair(no));
        }
    }

    private static void promises14And15() {
        ChairMigration x = after("c03;c04;c15");
        due(1, x.fold(2));
        due(2, x.fold(0));
        due(true, x.isFolded(0));
        due(false, x.isFolded(1));
        dueRejection(x, ChairMigration.FOLDED, 2, () -> x.fold(2));
        dueRejection(x, ChairMigration.NOT_FOLDED, 1, () -> x.unfold(1));
        due(1, x.unfold(2));
        due(false, x.isFolded(2));
        dueRejection(x, ChairMigration.NOT_FOLDED, 2, () -> x.unfold(2));
        due(0, x.unfold(0));
        for (int no : NO_CHAIRS) {
            dueThrow(NO_INDEX, () -> x.fold(no));
            dueThrow(NO_INDEX, () -> x.unfold(no));
        }
    }

    private static void promise16() {
        ChairMigration x = after("p01;p12;p34;c00;c00;c00;c10");
        due(0, x.moveChair(0, 1));
        due(1, x.lawnOf(0));
        due(1, x.positionOf(0));
        due(0, x.positionOf(1));
        due(1, x.positionOf(2));
        due(1, x.moveCount());
        due(1, x.moveChair(0, 0));
        due(2, x.positionOf(0));
        due(2, x.moveCount());
        dueRejection(x, ChairMigration.NO_PATH, 0, () -> x.moveChair(0, 0));
        dueRejection(x, ChairMigration.NO_PATH, 2, () -> x.moveChair(0, 2));
        dueRejection(x, ChairMigration.NO_PATH, -1, () -> x.moveChair(0, 3));
        run(x, "f0;c10;c10;c10;c10");
        dueRejection(x, ChairMigration.FOLDED, 0, () -> x.moveChair(0, 1));
        dueRejection(x, ChairMigration.FOLDED, 0, () -> x.moveChair(0, 3));
        dueRejection(x, ChairMigration.LAWN_FULL, 1, () -> x.moveChair(1, 1));
        dueRejection(x, ChairMigration.NO_PATH, 0, () -> x.moveChair(3, 1));
        due(2, x.moveCount());
        for (int no : NO_CHAIRS) {
            dueThrow(NO_INDEX, () -> x.moveChair(no, 0));
            dueThrow(NO_INDEX, () -> x.moveChair(no, 6));
        }
        for (int no : NO_LAWNS) {
            dueThrow(NO_INDEX, () -> x.moveChair(0, no));
        }
    }

    private static void promise17() {
        ChairMigration x = after("p01;p12;c01;c02;c03;c04;c15;c16", "f1");
        due(3, x.migrate(0, 1));
        due(3, x.moveCount());
        int[] want = {4, 5, 0, 2, 3};
        for (int position = 0; position < 5; position++) {
            due(want[position], x.chairAt(1, position));
        }
        due(1, x.chairAt(0, 0));
        due(1, x.herdSize(0));
        dueRejection(x, ChairMigration.NO_HERD, 1, () -> x.migrate(0, 1));
        dueRejection(x, ChairMigration.NO_HERD, 0, () -> x.migrate(2, 1));
        dueRejection(x, ChairMigration.NO_PATH, 2, () -> x.migrate(0, 2));
        dueRejection(x, ChairMigration.NO_PATH, 0, () -> x.migrate(1, 1));
        dueRejection(x, ChairMigration.NO_PATH, -1, () -> x.migrate(5, 0));
        x.unfold(1);
        dueRejection(x, ChairMigration.LAWN_FULL, 1, () -> x.migrate(0, 1));
        run(x, "c20;c20;c20");
        due(2, x.migrate(1, 2));
        due(5, x.moveCount());
        due(4, x.chairAt(2, 3));
        due(5, x.chairAt(2, 4));
        due(0, x.chairAt(1, 0));
        for (int no : NO_LAWNS) {
            dueThrow(NO_INDEX, () -> x.migrate(no, 0));
            dueThrow(NO_INDEX, () -> x.migrate(0, no));
        }
    }

    private static void promise18() {
        ChairMigration x = after("c09;c02;c00;c03");
        due(6, x.oilChair(0));
        due(2, x.oil());
        due(0, x.oilChair(1));
        dueRejection(x, ChairMigration.NO_RUST, 1, () -> x.oilChair(1));
        x.fold(3);
        due(0, x.oilChair(3));
        due(0, x.oil());
        dueRejection(x, ChairMigration.NO_OIL, 6, () -> x.oilChair(0));
        dueRejection(x, ChairMigration.NO_RUST, 0, () -> x.oilChair(2));
        due(6, x.rustOf(0));
        for (int no : NO_CHAIRS) {
            dueThrow(NO_INDEX, () -> x.oilChair(no));
        }
    }

    private static void promise19() {
        ChairMigration x = new ChairMigration();
        due(4, x.addOil(1));
        due(14, x.addOil(10));
        dueRejection(x, ChairMigration.OIL_LIMIT, 14, () -> x.addOil(7));
        due(20, x.addOil(6));
        dueRejection(x, ChairMigration.OIL_LIMIT, 20, () -> x.addOil(1));
        for (int units : new int[] {0, 11, -1, Integer.MIN_VALUE, Integer.MAX_VALUE}) {
            dueThrow(BAD_ARGUMENT, () -> x.addOil(units));
        }
        due(20, x.oil());
    }

    private static void promises20To25() {
        ChairMigration x = after("c03;c14;d3;c05;f1");
        due(true, x.exists(0));
        due(true, x.exists(2));
        due(false, x.exists(3));
        due(0, x.lawnOf(0));
        due(1, x.lawnOf(1));
        due(3, x.rustOf(0));
        due(5, x.rustOf(2));
        due(false, x.isFolded(0));
        due(true, x.isFolded(1));
        due(3, x.ageOf(0));
        due(0, x.ageOf(2));
        x.passDays(1);
        due(4, x.ageOf(1));
        due(1, x.ageOf(2));
        due(0, x.positionOf(0));
        due(0, x.positionOf(1));
        due(1, x.positionOf(2));
        x.scrapChair(0);
        due(false, x.exists(0));
        due(0, x.positionOf(2));
        for (int no : new int[] {0, 3, -1, Integer.MIN_VALUE, Integer.MAX_VALUE}) {
            due(false, x.exists(no));
            dueThrow(NO_INDEX, () -> x.lawnOf(no));
            dueThrow(NO_INDEX, () -> x.rustOf(no));
            dueThrow(NO_INDEX, () -> x.isFolded(no));
            dueThrow(NO_INDEX, () -> x.ageOf(no));
            dueThrow(NO_INDEX, () -> x.positionOf(no));
        }
    }

    private static void promises26To28() {
        ChairMigration x = after("p01;c00;c10;c00;c00;f2");
        due(3, x.herdSize(0));
        due(3, x.herdSizeByChairs(0));
        due(1, x.herdSize(1));
        due(0, x.herdSizeByChairs(2));
        x.moveChair(0, 1);
        due(2, x.herdSize(0));
        due(2, x.herdSizeByChairs(1));
        due(2, x.chairAt(0, 0));
        due(3, x.chairAt(0, 1));
        due(1, x.chairAt(1, 0));
        due(0, x.chairAt(1, 1));
        for (int position : new int[] {-1, 2, 5, Integer.MIN_VALUE, Integer.MAX_VALUE}) {
            dueThrow(NO_ELEMENT, () -> x.chairAt(0, position));
            dueThrow(NO_INDEX, () -> x.chairAt(6, position));
        }
        dueThrow(NO_ELEMENT, () -> x.chairAt(2, 0));
        for (int no : NO_LAWNS) {
            dueThrow(NO_INDEX, () -> x.herdSize(no));
            dueThrow(NO_INDEX, () -> x.herdSizeByChairs(no));
            dueThrow(NO_INDEX, () -> x.chairAt(no, 0));
        }
    }

    private static void promise29() {
        ChairMigration x = after("p01;c03;c09;c09;c18");
        due(1, x.elderOf(0));
        due(3, x.elderOf(1));
        x.fold(1);
        due(1, x.elderOf(0));
        x.unfold(1);
        x.moveChair(1, 1);
        x.moveChair(1, 0);
        due(1, x.elderOf(0));
        x.oilChair(1);
        due(2, x.elderOf(0));
        ChairMigration first = after("c09;c03;c09");
        due(0, first.elderOf(0));
        first.scrapChair(2);
        due(0, first.elderOf(0));
        run(first, "c19;s3");
        due(0, first.elderOf(0));
        run(first, "o0;o0;c09;s4");
        due(0, first.elderOf(0));
        dueThrow(NO_ELEMENT, () -> x.elderOf(2));
        for (int no : NO_LAWNS) {
            dueThrow(NO_INDEX, () -> x.elderOf(no));
        }
    }

    private static void promise30() {
        ChairMigration x = after("c00;c00;c00;c00;h0=1");
        due(3, x.hungryChairs(0));
        x.fold(0);
        due(2, x.hungryChairs(0));
        x.setShade(0, 3);
        due(0, x.hungryChairs(0));
        x.setShade(0, 4);
        due(0, x.hungryChairs(0));
        x.setShade(0, 0);
        due(3, x.hungryChairs(0));
        due(0, x.hungryChairs(1));
        for (int no : NO_LAWNS) {
            dueThrow(NO_INDEX, () -> x.hungryChairs(no));
        }
    }

    private static void promise31() {
        ChairMigration x = after("p01;p02;p03;h4=20");
        due(1, x.bestNeighbour(0));
        x.addChair(1, 0);
        due(2, x.bestNeighbour(0));
        x.addChair(2, 0);
        due(3, x.bestNeighbour(0));
        x.addChair(3, 0);
        due(1, x.bestNeighbour(0));
        x.setShade(3, 6);
        due(3, x.bestNeighbour(0));
        due(0, x.bestNeighbour(3));
        dueThrow(NO_ELEMENT, () -> x.bestNeighbour(4));
        for (int no : NO_LAWNS) {
            dueThrow(NO_INDEX, () -> x.bestNeighbour(no));
        }
    }

    private static void promise32() {
        ChairMigration x = after("c00;c00;c00;c17;f2;h0=1;h2=18;h3=0");
        due(0, x.passDays(1));
        due(0, x.rustOf(0));
        due(1, x.rustOf(1));
        due(0, x.rustOf(2));
        due(3, x.shadeOf(0));
        due(7, x.shadeOf(1));
        due(20, x.shadeOf(2));
        due(3, x.shadeOf(3));
        due(2, x.grazedShade());
        x.passDays(3);
        due(12, x.shadeOf(3));
        x.passDays(1);
        due(15, x.shadeOf(3));
        x.setShade(3, 0);
        x.passDays(5);
        due(10, x.shadeOf(3));
        x.setShade(3, 0);
        x.passDays(5);
        due(5, x.shadeOf(3));
        x.setShade(3, 0);
        due(7, x.rustOf(3));
        due(1, x.passDays(3));
        due(false, x.exists(3));
        due(0, x.shadeOf(3));
        due(5, x.rustOf(0));
        due(6, x.rustOf(1));
        due(0, x.rustOf(2));
        due(18, x.day());
        due(1, x.collapsedChairs());
        due(0, x.scrappedChairs());
        due(0, x.herdSize(1));
        for (int days : new int[] {0, 21, -1, Integer.MIN_VALUE, Integer.MAX_VALUE}) {
            dueThrow(BAD_ARGUMENT, () -> x.passDays(days));
        }
        due(18, x.day());

        ChairMigration bare = after("c09;c09;c08;c19;h0=1;h1=0;f3");
        due(1, bare.passDays(1));
        due(true, bare.exists(0));
        due(false, bare.exists(1));
        due(9, bare.rustOf(2));
        due(9, bare.rustOf(3));
        due(3, bare.chairCount());

        ChairMigration order = after("p01;c19;c09;h0=0;h1=1", "m0>0;h0=1");
        due(1, order.passDays(1));
        due(true, order.exists(1));
        due(false, order.exists(0));

        ChairMigration winter = after("d15;h0=0;c08;c09;c07;h1=5;c19");
        due(3, winter.passDays(1));
        due(9, winter.rustOf(2));
        due(4, winter.shadeOf(1));
        due(0, winter.shadeOf(0));
        ChairMigration grazers = after("d15;h0=5;c08");
        due(0, grazers.passDays(1));
        due(9, grazers.rustOf(0));
        due(1, grazers.grazedShade());
    }

    private static void promises33To35() {
        ChairMigration x = new ChairMigration();
        int[][] want = {{0, 5, 10, 15}, {0, 4, 9, 14}, {0, 3, 8, 13}, {0, 2, 7, 12}, {0, 1, 6, 11}};
        for (int day = 0; day <= 40; day++) {
            due(day, x.day());
            due(day / 5 % 4, x.season());
            for (int ahead = 0; ahead < 4; ahead++) {
                due(want[day % 5][ahead], x.daysUntil((day / 5 + ahead) % 4));
            }
            x.passDays(1);
        }
        for (int season : new int[] {-1, 4, Integer.MIN_VALUE, Integer.MAX_VALUE}) {
            dueThrow(BAD_ARGUMENT, () -> x.daysUntil(season));
        }
        ChairMigration leap = new ChairMigration();
        leap.passDays(20);
        due(20, leap.day());
        due(0, leap.season());
    }

    private static void promise36() {
        ChairMigration x = after("h0=0;c09;c08;c09;f2;c15");
        String before = data(x);
        due(1, x.wouldCollapse(1));
        due(before, data(x));
        due(1, x.wouldCollapse(1));
        due(1, x.wouldCollapse(15));
        due(2, x.wouldCollapse(16));
        due(3, x.wouldCollapse(20));
        due(before, data(x));
        due(3, x.passDays(20));
        run(x, "h3=0;c39;c39");
        due(2, x.wouldCollapse(1));
        due(2, x.passDays(1));
        due(5, x.collapsedChairs());
        for (int days : new int[] {0, 21, -1, Integer.MIN_VALUE, Integer.MAX_VALUE}) {
            dueThrow(BAD_ARGUMENT, () -> x.wouldCollapse(days));
        }
    }

    private static void promise37() {
        ChairMigration x = after("h0=0;c09;c08;c09;f2;c15;c20");
        String before = data(x);
        due(1, x.collapseDay(0));
        due(16, x.collapseDay(1));
        due(20, x.collapseDay(3));
        due(40, x.collapseDay(4));
        dueThrow(NO_ELEMENT, () -> x.collapseDay(2));
        due(before, data(x));
        for (int no : NO_CHAIRS) {
            dueThrow(NO_INDEX, () -> x.collapseDay(no));
        }
        x.passDays(1);
        due(15, x.collapseDay(1));
        dueThrow(NO_INDEX, () -> x.collapseDay(0));
    }

    private static void promises38To46() {
        ChairMigration x = after("p01;h0=1;h1=0;c01;c02;c13;c19;f0");
        due(4, x.chairCount());
        due(1, x.foldedCount());
        due(3, x.oil());
        due(15, x.totalRust());
        due(15, x.totalRustByHerds());
        due(1, x.passDays(1));
        due(3, x.chairCount());
        due(7, x.totalRust());
        due(7, x.totalRustByHerds());
        due(1, x.collapsedChairs());
        due(1, x.grazedShade());
        x.oilChair(2);
        due(2, x.oil());
        x.scrapChair(0);
        due(0, x.foldedCount());
        due(1, x.scrappedChairs());
        due(1, x.collapsedChairs());
        x.moveChair(1, 1);
        x.migrate(1, 0);
        due(3, x.moveCount());
        due(2, x.chairCount());
        x.passDays(2);
        due(5, x.grazedShade());
        due(3, x.totalRust());
    }

    private static void promise47() {
        ChairMigration x = after("p01;c03;c05;c03;c13;c19;c03", "m0>1");
        int[] want = {4, 1, 0, 2, 3, 5};
        for (int rank = 0; rank < 6; rank++) {
            due(want[rank], x.chairByRust(rank));
        }
        dueThrow(NO_ELEMENT, () -> x.chairByRust(6));
        dueThrow(NO_ELEMENT, () -> x.chairByRust(-1));
        dueThrow(NO_ELEMENT, () -> x.chairByRust(Integer.MAX_VALUE));
        dueThrow(NO_ELEMENT, () -> x.chairByRust(Integer.MIN_VALUE));
        x.passDays(1);
        x.addChair(4, 3);
        x.fold(4);
        due(4, x.chairByRust(0));
        due(6, x.chairByRust(6));
        x.addChair(3, 9);
        due(7, x.chairByRust(1));
        x.addChair(3, 0);
        due(8, x.chairByRust(8));
        x.scrapChair(4);
        due(7, x.chairByRust(0));
        due(8, x.chairByRust(7));
        dueThrow(NO_ELEMENT, () -> x.chairByRust(8));
        run(x, "c10;c20;c20;c21");
        due(12, x.chairByRust(7));
        due(11, x.chairByRust(11));
        dueThrow(NO_ELEMENT, () -> x.chairByRust(12));
        dueThrow(NO_ELEMENT, () -> new ChairMigration().chairByRust(0));
    }

    private static void promise48() {
        ChairMigration x = after("h1=20;h3=0;c00;c20;c40;c40");
        int[] want = {1, 5, 0, 2, 4, 3};
        for (int rank = 0; rank < 6; rank++) {
            due(want[rank], x.lawnByShade(rank));
        }
        run(x, "c30;h4=0;h2=0");
        int[] later = {1, 5, 0, 2, 3, 4};
        for (int rank = 0; rank < 6; rank++) {
            due(later[rank], x.lawnByShade(rank));
        }
        for (int rank : new int[] {-1, 6, Integer.MIN_VALUE, Integer.MAX_VALUE}) {
            dueThrow(NO_ELEMENT, () -> x.lawnByShade(rank));
        }
        for (int rank = 0; rank < 6; rank++) {
            due(rank, new ChairMigration().lawnByShade(rank));
        }
    }

    private static void promises49And50() {
        ChairMigration x = new ChairMigration();
        dueThrow(NO_NUMBER, () -> x.meanRust());
        dueThrow(NO_NUMBER, () -> x.foldedShare());
        run(x, "c01;c02;c07");
        due(10.0 / 3.0, x.meanRust());
        due(0.0f, x.foldedShare());
        x.fold(1);
        due(1.0f / 3.0f, x.foldedShare());
        x.fold(0);
        due(2.0f / 3.0f, x.foldedShare());
        run(x, "s0;s1");
        due(7.0, x.meanRust());
        x.scrapChair(2);
        dueThrow(NO_NUMBER, () -> x.meanRust());
        dueThrow(NO_NUMBER, () -> x.foldedShare());
    }

    private static void promise51() {
        ChairMigration x = after("p01;p12;p34;c01;c02;c13;f0");
        due(true, x.isConsistent());
        run(x, "g0>1;m1>2;s2;d20");
        due(true, x.isConsistent());
        x.undo();
        due(true, x.isConsistent());
    }

    private static void promises52And53() {
        ChairMigration x = after("h2=17;c23;c00;c00;c00;c29;f4;c10;s5");
        dueThrow(NO_INDEX, () -> x.outputAt(0));
        dueOutput(x, 2, "2:17 0r3 4r9f");
        dueThrow(NO_INDEX, () -> x.outputAt(13));
        dueThrow(NO_INDEX, () -> x.outputAt(-1));
        dueThrow(NO_INDEX, () -> x.outputAt(Integer.MAX_VALUE));
        dueThrow(NO_INDEX, () -> x.outputAt(Integer.MIN_VALUE));
        for (int no : NO_LAWNS) {
            dueThrow(NO_INDEX, () -> x.writeLawn(no));
        }
        due("2:17 0r3 4r9f", output(x));
        x.setShade(2, 0);
        x.undo();
        due("2:17 0r3 4r9f", output(x));
        dueOutput(x, 1, "1:5");
        dueThrow(NO_INDEX, () -> x.outputAt(3));
        for (int i = 0; i < 6; i++) {
            x.scrapChair(x.addChair(1, 0));
        }
        x.addChair(1, 8);
        dueOutput(x, 1, "1:5 12r8");
        x.saveSnapshot();
        x.restoreSnapshot();
        due("1:5 12r8", output(x));
    }

    private static void promise54() {
        ChairMigration x = new ChairMigration();
        due(1, x.appendInput(' '));
        due(2, x.appendInput('~'));
        for (char bad : new char[] {0, 31, 127, 255, 65535}) {
            dueThrow(BAD_ARGUMENT, () -> x.appendInput(bad));
        }
        for (int length = 3; length <= 60; length++) {
            due(length, x.appendInput('x'));
        }
        dueThrow(BAD_STATE, () -> x.appendInput('x'));
        dueThrow(BAD_ARGUMENT, () -> x.appendInput((char) 127));
        dueThrow(BAD_ARGUMENT, () -> x.execute());
        due(1, x.appendInput('x'));
        x.addOil(1);
        x.undo();
        due(2, x.appendInput('x'));
    }

    private static void promise55() {
        ChairMigration x = new ChairMigration();
        due(1, run(x, "p05"));
        due(true, x.isPath(0, 5));
        due(3, run(x, "h3=0;h4=20;h5=07"));
        due(0, x.shadeOf(3));
        due(20, x.shadeOf(4));
        due(7, x.shadeOf(5));
        due(6, run(x, "c09;c52;f0;m01>0;u00;g0>5"));
        due(5, x.lawnOf(0));
        due(9, x.rustOf(0));
        due(5, run(x, "o0;s1;q50;a10;d20"));
        due(12, x.oil());
        due(20, x.day());
        due(0, x.pathCount());
        due(1, x.scrappedChairs());

        due(20, run(x, "d1;d1;d1;d1;d1;d1;d1;d1;d1;d1;d1;d1;d1;d1;d1;d1;d1;d1;d1;d1"));
        due(40, x.day());
        due(4, x.undo());
        due(20, x.day());
    }

    private static void commandsThatFail() {
        for (String bad : new String[] {"p00", "p06", "p60", "q11", "q90", "h6=1", "h0=21", "h0=99", "c60", "s99", "f77",
            "u50", "o50", "m50>0", "g6>0", "g0>6", "a0", "a11", "a00", "d0", "d21", "p01;c01;h1=3;p22",
            "p01;c01;d3;p77;q02"}) {
            ChairMigration x = dueNothingDone(BAD_STATE, bad);
            dueThrow(NO_ELEMENT, () -> x.rejectionReason());
        }
        dueNothingDone(REJECTED, "p01;c01;d3;q02;p77");
        dueNothingDone(BAD_ARGUMENT, "");
        ChairMigration x = dueNothingDone(BAD_ARGUMENT, "d1;s0;z");
        due(1, x.appendInput('d'));
        due(2, x.appendInput('1'));
        due(1, x.execute());
    }

    private static ChairMigration dueNothingDone(Class<?> want, String commands) {
        ChairMigration x = after("c09;c52;f1;h3=7;p05;m0>5;d3");
        String before = data(x);
        type(x, commands);
        dueThrow(want, () -> x.execute());
        due(before, data(x));
        return x;
    }

    private static void commandsThatAreRejected() {
        dueCause(after("p01"), 0, ChairMigration.PATH_EXISTS, "p10");
        dueCause(after("p01"), 1, ChairMigration.NO_PATH, "q10;q01");
        dueCause(after("c00;c00;c00;c00;c00;c10;c10;c10;c10;c10;c20", "c20"), 0, ChairMigration.CHAIR_LIMIT, "c30");
        dueCause(after(), 5, ChairMigration.LAWN_FULL, "c00;c00;c00;c00;c00;c00;p01");
        dueCause(after("c00"), 1, ChairMigration.FOLDED, "f0;f0;u0");
        dueCause(after("c00"), 0, ChairMigration.NOT_FOLDED, "u0");
        dueCause(after("c00;f0;p01"), 0, ChairMigration.FOLDED, "m0>1");
        dueCause(after("c00;f0;p01"), 0, ChairMigration.NO_HERD, "g0>1");
        dueCause(after("c00"), 0, ChairMigration.NO_PATH, "m0>0");
        dueCause(after("c00"), 0, ChairMigration.NO_PATH, "g0>1");
        dueCause(after("c00"), 0, ChairMigration.NO_RUST, "o0");
        dueCause(after("c09;c09"), 3, ChairMigration.NO_OIL, "o0;o0;o0;o1");
        dueCause(after(), 2, ChairMigration.OIL_LIMIT, "a10;a7;a1");
        dueCause(after("c00;p01;c10;c10;c10;c10;c10"), 0, ChairMigration.LAWN_FULL, "m0>1");
        dueCause(after("c00;p01;c10;c10;c10;c10;c10"), 1, ChairMigration.LAWN_FULL, "d1;g0>1");
    }

    private static void promise56() {
        ChairMigration x = new ChairMigration();
        dueThrow(NO_ELEMENT, () -> x.syntaxErrorOffset());
        run(x, "p01");
        dueThrow(NO_ELEMENT, () -> x.syntaxErrorOffset());
        dueThrow(BAD_ARGUMENT, () -> run(x, "p01;x"));
        due(4, x.syntaxErrorOffset());
        dueThrow(REJECTED, () -> run(x, "p01"));
        due(4, x.syntaxErrorOffset());
        x.undo();
        x.saveSnapshot();
        x.restoreSnapshot();
        due(4, x.syntaxErrorOffset());
        dueThrow(BAD_ARGUMENT, () -> run(x, ""));
        due(0, x.syntaxErrorOffset());
    }

    private static void syntaxErrorsOfEveryCommand() {
        dueSyntaxError(0, "");
        dueSyntaxError(0, ";");
        dueSyntaxError(0, " p01");
        dueSyntaxError(0, "P01");
        dueSyntaxError(0, "1");
        for (String letter : new String[] {"p", "q", "c"}) {
            dueSyntaxError(1, letter);
            dueSyntaxError(1, letter + "x");
            dueSyntaxError(1, letter + ";");
            dueSyntaxError(2, letter + "0");
            dueSyntaxError(2, letter + "0;");
            dueSyntaxError(3, letter + "012");
            dueSyntaxError(3, letter + "01 ");
            dueSyntaxError(4, letter + "01;");
        }
        for (String letter : new String[] {"s", "f", "u", "o", "a", "d"}) {
            dueSyntaxError(1, letter);
            dueSyntaxError(1, letter + "-1");
            dueSyntaxError(1, letter + ";");
            dueSyntaxError(2, letter + "1>");
            dueSyntaxError(3, letter + "123");
            dueSyntaxError(2, letter + "1,");
            dueSyntaxError(3, letter + "1;");
            dueSyntaxError(4, letter + "12;");
        }
        dueSyntaxError(1, "h");
        dueSyntaxError(2, "h0");
        dueSyntaxError(2, "h01");
        dueSyntaxError(2, "h0>1");
        dueSyntaxError(3, "h0=");
        dueSyntaxError(3, "h0==");
        dueSyntaxError(5, "h0=111");
        dueSyntaxError(5, "h0=1;");
        dueSyntaxError(1, "m>");
        dueSyntaxError(2, "m0=1");
        dueSyntaxError(3, "m012>");
        dueSyntaxError(3, "m01");
        dueSyntaxError(3, "m0>");
        dueSyntaxError(4, "m0>01");
        dueSyntaxError(5, "m00>01");
        dueSyntaxError(1, "g>1");
        dueSyntaxError(2, "g01>2");
        dueSyntaxError(3, "g0>x");
        dueSyntaxError(4, "g0>12");
        dueSyntaxError(4, "d99;;d1");
        dueSyntaxError(4, "p99;x");
        dueSyntaxError(60, "d1;d1;d1;d1;d1;d1;d1;d1;d1;d1;d1;d1;d1;d1;d1;d1;d1;d1;d1;d1;");
        dueSyntaxError(60, "d11;d11;d11;d11;d11;d11;d11;d11;d11;d11;d11;d11;d11;d11;d11;");
        dueSyntaxError(60, "d11;d11;d11;d11;d11;d11;d11;d11;d11;d11;d11;d11;d11;d11;m00>");
        dueSyntaxError(59, "d11;d11;d11;d11;d11;d11;d11;d11;d11;d11;d11;d11;d11;d11;m0>x");
    }

    private static void promises57To59() {
        ChairMigration x = after("p01;p12");
        dueThrow(NO_ELEMENT, () -> x.rejectionReason());
        dueThrow(NO_ELEMENT, () -> x.rejectionDetail());
        dueThrow(NO_ELEMENT, () -> x.causeReason());
        dueThrow(NO_INDEX, () -> x.fold(0));
        dueThrow(BAD_ARGUMENT, () -> x.addOil(0));
        dueThrow(NO_ELEMENT, () -> x.distance(0, 5));
        dueThrow(NO_ELEMENT, () -> x.rejectionReason());
        dueRejection(x, 2, 2, () -> x.removePath(0, 2));
        x.addChair(0, 0);
        x.undo();
        x.saveSnapshot();
        x.restoreSnapshot();
        due(2, x.rejectionReason());
        due(2, x.rejectionDetail());
        dueCause(x, 1, 1, "a1;p01;s0");
        dueThrow(BAD_STATE, () -> run(x, "s0"));
        dueThrow(BAD_ARGUMENT, () -> run(x, "s"));
        run(x, "a1");
        due(11, x.rejectionReason());
        due(1, x.rejectionDetail());
        due(1, x.causeReason());
        x.addOil(10);
        dueRejection(x, 10, 14, () -> x.addOil(10));
    }

    private static void promise60() {
        ChairMigration x = new ChairMigration();
        dueThrow(BAD_STATE, () -> x.undo());
        String[] changes = {"p01", "h0=3", "c05", "c16", "f0", "u0", "m0>1", "g1>0", "o1", "a5", "d9", "s0", "q01"};
        for (int undone = 1; undone <= 8; undone++) {
            ChairMigration some = after(changes);
            for (int i = 1; i <= undone; i++) {
                due(8 - i, some.undo());
            }
            due(data(after(Arrays.copyOf(changes, changes.length - undone))), data(some));
        }
        for (String change : changes) {
            run(x, change);
        }
        for (int i = 0; i < 8; i++) {
            x.undo();
        }
        dueThrow(BAD_STATE, () -> x.undo());
    }

    /** Every kind of change counts as one, also one after which nothing is different. */
    private static void changesThatUndoTakesBack() {
        ChairMigration x = after("p01;c09;c00;c10");
        String before = data(x);
        due(5, x.setShade(0, 5));
        due(1, x.undo());
        due(before, data(x));
        x.addPath(2, 3);
        x.removePath(0, 1);
        x.undo();
        x.migrate(0, 1);
        x.moveChair(1, 0);
        x.oilChair(0);
        x.fold(0);
        x.unfold(0);
        x.passDays(20);
        x.scrapChair(2);
        due(7, x.undo());
        due(6, x.undo());
        x.addChair(0, 1);
        due(6, x.undo());
        for (int left = 5; left >= 0; left--) {
            due(left, x.undo());
        }
    }

    private static void undoOfIdsAndOfCallsThatAreNoChange() {
        ChairMigration x = new ChairMigration();
        due(0, x.addChair(0, 0));
        due(1, x.addChair(0, 0));
        due(1, x.undo());
        due(1, x.addChair(3, 0));
        due(3, x.lawnOf(1));
        x.saveSnapshot();
        x.writeLawn(0);
        x.wouldCollapse(20);
        x.collapseDay(0);
        x.isConsistent();
        type(x, "s7");
        dueThrow(BAD_STATE, () -> x.execute());
        type(x, "u0");
        dueThrow(REJECTED, () -> x.execute());
        dueThrow(BAD_ARGUMENT, () -> x.execute());
        dueThrow(REJECTED, () -> x.unfold(0));
        dueThrow(NO_INDEX, () -> x.fold(9));
        dueThrow(BAD_ARGUMENT, () -> x.passDays(0));
        due(1, x.undo());
        due(0, x.undo());
        dueThrow(BAD_STATE, () -> x.undo());
        due(2, x.restoreSnapshot());
    }

    private static void promises61And62() {
        ChairMigration x = new ChairMigration();
        dueThrow(BAD_STATE, () -> x.restoreSnapshot());
        due(0, x.saveSnapshot());
        run(x, "p01;h3=9;c03;c12;f0;m1>0;d12;a4");
        String before = data(x);
        due(2, x.saveSnapshot());
        due(0, x.undo());
        due(2, x.restoreSnapshot());
        due(before, data(x));
        dueThrow(BAD_STATE, () -> x.undo());
        run(x, "q01;h3=0;s0;c50;c55;d20");
        x.addOil(1);
        due(2, x.restoreSnapshot());
        due(before, data(x));
        due(2, x.addChair(4, 0));
        due(0, x.undo());
        dueThrow(BAD_STATE, () -> x.undo());
        x.addChair(4, 0);
        due(3, x.saveSnapshot());
        due(0, x.undo());
        due(3, x.restoreSnapshot());
        due(3, x.addChair(4, 0));
        type(x, "d1");
        x.restoreSnapshot();
        due(1, x.execute());
    }

    private static void constants() {
        due(1, ChairMigration.PATH_EXISTS);
        due(2, ChairMigration.NO_PATH);
        due(3, ChairMigration.CHAIR_LIMIT);
        due(4, ChairMigration.LAWN_FULL);
        due(5, ChairMigration.FOLDED);
        due(6, ChairMigration.NOT_FOLDED);
        due(7, ChairMigration.NO_HERD);
        due(8, ChairMigration.NO_RUST);
        due(9, ChairMigration.NO_OIL);
        due(10, ChairMigration.OIL_LIMIT);
        due(11, ChairMigration.COMMAND_REJECTED);
    }

    public static void main(String[] args) {
        limitTime();
        test("constants", PromisesTest::constants);
        test("promise 1", PromisesTest::promise1);
        test("promise 2", PromisesTest::promise2);
        test("promise 3", PromisesTest::promise3);
        test("promise 4", PromisesTest::promise4);
        test("promises 5 and 6", PromisesTest::promises5And6);
        test("promises 5 to 7, every chain", PromisesTest::distancesInEveryChain);
        test("promise 7", PromisesTest::promise7);
        test("promise 8", PromisesTest::promise8);
        test("promise 9", PromisesTest::promise9);
        test("promises 10 and 11", PromisesTest::promises10And11);
        test("promise 12", PromisesTest::promise12);
        test("promise 13", PromisesTest::promise13);
        test("promises 14 and 15", PromisesTest::promises14And15);
        test("promise 16", PromisesTest::promise16);
        test("promise 17", PromisesTest::promise17);
        test("promise 18", PromisesTest::promise18);
        test("promise 19", PromisesTest::promise19);
        test("promises 20 to 25", PromisesTest::promises20To25);
        test("promises 26 to 28", PromisesTest::promises26To28);
        test("promise 29", PromisesTest::promise29);
        test("promise 30", PromisesTest::promise30);
        test("promise 31", PromisesTest::promise31);
        test("promise 32", PromisesTest::promise32);
        test("promises 33 to 35", PromisesTest::promises33To35);
        test("promise 36", PromisesTest::promise36);
        test("promise 37", PromisesTest::promise37);
        test("promises 38 to 46", PromisesTest::promises38To46);
        test("promise 47", PromisesTest::promise47);
        test("promise 48", PromisesTest::promise48);
        test("promises 49 and 50", PromisesTest::promises49And50);
        test("promise 51", PromisesTest::promise51);
        test("promises 52 and 53", PromisesTest::promises52And53);
        test("promise 54", PromisesTest::promise54);
        test("promise 55", PromisesTest::promise55);
        test("promise 55, commands that fail", PromisesTest::commandsThatFail);
        test("promise 55, rejected commands", PromisesTest::commandsThatAreRejected);
        test("promise 56", PromisesTest::promise56);
        test("promise 56, every command", PromisesTest::syntaxErrorsOfEveryCommand);
        test("promises 57 to 59", PromisesTest::promises57To59);
        test("promise 60", PromisesTest::promise60);
        test("promise 60, kinds of change", PromisesTest::changesThatUndoTakesBack);
        test("promise 60, ids and no changes", PromisesTest::undoOfIdsAndOfCallsThatAreNoChange);
        test("promises 61 and 62", PromisesTest::promises61And62);
        report();
    }
}
