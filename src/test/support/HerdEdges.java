/** Promises 26 to 31: what a herd is asked for. */
final class HerdEdges extends Edges {
    private static final String NO_LAWN = "Throws `IndexOutOfBoundsException` if there is no such lawn";
    private static final String LAWN = "`lawn`: the index of a lawn, 0 to 5";

    private interface Count {
        int of(ChairMigration x, int lawn);
    }

    static void all() {
        herdSize();
        herdSizeByChairs();
        chairAt();
        elderOf();
        hungryChairs();
        bestNeighbour();
    }

    private static void herdSize() {
        part("herdSize");
        bothWays("Returns the number of chairs in the herd of a lawn.", "Returns the number of chairs.",
            (x, lawn) -> x.herdSize(lawn));
    }

    private static void herdSizeByChairs() {
        part("herdSizeByChairs");
        bothWays("Returns the number of chairs in the herd of a lawn in a second way: by asking all chairs for their lawns.",
            "Returns the same number.", (x, lawn) -> x.herdSizeByChairs(lawn));
    }

    /** What the document says alike of both ways to count a herd. */
    private static void bothWays(String sentence, String answer, Count way) {
        says(sentence, () -> {
            ChairMigration x = after("p01;c00;c00;c10;f0");
            due(2, way.of(x, 0));
            x.moveChair(1, 1);
            due(1, way.of(x, 0));
            due(2, way.of(x, 1));
        });
        says(LAWN, () -> {
            ChairMigration x = after("c00;c10;c10;c20;c20;c20;c50;c50;c50;c50");
            eachLawn(lawn -> way.of(x, lawn), 1, 2, 3, 0, 0, 4);
        });
        says(answer, () -> {
            ChairMigration x = new ChairMigration();
            for (int chairs = 0; chairs < 5; chairs++) {
                due(chairs, way.of(x, 3));
                x.addChair(3, 9);
            }
            due(5, way.of(x, 3));
            run(x, "h3=2;d1");
            due(2, way.of(x, 3));
            run(x, "s0;s1");
            due(0, way.of(x, 3));
        });
        says(NO_LAWN, () -> noLawn(no -> way.of(full(), no)));
    }

    private static void chairAt() {
        part("chairAt");
        says("Returns a chair of the herd of a lawn.", () -> {
            ChairMigration x = after("p01;c00;c10;c00;m0>1");
            due(2, x.chairAt(0, 0));
            due(1, x.chairAt(1, 0));
            due(0, x.chairAt(1, 1));
        });
        says(LAWN, () -> {
            ChairMigration x = after("c50;c40;c30;c20;c10;c00");
            eachLawn(lawn -> x.chairAt(lawn, 0), 5, 4, 3, 2, 1, 0);
        });
        says("`position`: the position, from 0", () -> {
            ChairMigration x = full();
            for (int position = 0; position < 5; position++) {
                due(5 + position, x.chairAt(1, position));
            }
        });
        says("Returns the id of the chair.", () -> {
            ChairMigration x = after("c00;s0;c00;s1;c34");
            due(2, x.chairAt(3, 0));
            due(4, x.rustOf(2));
        });
        says(NO_LAWN, () -> {
            noLawn(no -> full().chairAt(no, 0));
            noLawn(no -> full().chairAt(no, -1));
        });
        says("Throws `NoSuchElementException` if there is no such position", () -> {
            ChairMigration x = full();
            noPosition(position -> x.chairAt(0, position), -1, 5, 6, 12);
            noPosition(position -> x.chairAt(2, position), -1, 2, 3);
            noPosition(position -> x.chairAt(3, position), -1, 0, 1);
            x.scrapChair(0);
            dueThrow(NO_ELEMENT, () -> x.chairAt(0, 4));
            due(4, x.chairAt(0, 3));
        });
    }

    private static void elderOf() {
        part("elderOf");
        says("Returns the elder of a herd: the chair with the most rust.", () -> {
            ChairMigration x = after("c03;c05;c04;c19;f1");
            due(1, x.elderOf(0));
            due(3, x.elderOf(1));
            x.oilChair(1);
            due(2, x.elderOf(0));
        });
        says("Of several such chairs, the one with the lowest id is returned.", () -> {
            ChairMigration x = after("p01;c05;c05;c05;c01;m0>1");
            x.moveChair(0, 0);
            due("1 2 3 0", herd(x, 0));
            due(0, x.elderOf(0));
            x.scrapChair(0);
            due(1, x.elderOf(0));
        });
        says(LAWN, () -> {
            ChairMigration x = after("c01;c12;c23;c34;c45;c56");
            eachLawn(lawn -> x.elderOf(lawn), 0, 1, 2, 3, 4, 5);
        });
        says("Returns the id of the chair.", () -> {
            ChairMigration x = after("c00;c00;s0;s1;c20");
            due(2, x.elderOf(2));
        });
        says(NO_LAWN, () -> noLawn(no -> full().elderOf(no)));
        says("Throws `NoSuchElementException` if the herd is empty", () -> {
            ChairMigration x = after("c00");
            dueThrow(NO_ELEMENT, () -> x.elderOf(1));
            due(0, x.elderOf(0));
            x.scrapChair(0);
            dueThrow(NO_ELEMENT, () -> x.elderOf(0));
        });
    }

    private static void hungryChairs() {
        part("hungryChairs");
        says("Returns how many chairs of a herd would find no shade on the coming day.", () -> {
            ChairMigration x = after("c00;c00;c00;c00;f1");
            int[] want = {3, 2, 1, 0, 0, 0};
            for (int shade = 0; shade <= 5; shade++) {
                x.setShade(0, shade);
                due(want[shade], x.hungryChairs(0));
            }
            // The shade that grows on the coming day grows after all chairs of the lawn.
            x.setShade(0, 1);
            x.passDays(1);
            due(2, x.totalRust());
        });
        says(LAWN, () -> {
            ChairMigration x = after("h0=0;h5=0;h3=1;c00;c50;c50;c30;c30;c30;c20");
            eachLawn(lawn -> x.hungryChairs(lawn), 1, 0, 0, 2, 0, 2);
        });
        says("Returns the number of chairs.", () -> {
            ChairMigration x = after("h0=0;c00;c00;c00;c00;c00");
            due(5, x.hungryChairs(0));
            run(x, "f0;f1;f2;f3;f4");
            due(0, x.hungryChairs(0));
            due(0, x.hungryChairs(1));
        });
        says(NO_LAWN, () -> noLawn(no -> full().hungryChairs(no)));
    }

    private static void bestNeighbour() {
        part("bestNeighbour");
        says("Returns the neighbour of a lawn to which its herd should migrate: the neighbour with the most shade.", () -> {
            ChairMigration x = after("p01;p02;p04;p53;h2=6;h5=20;h0=20;c20");
            due(2, x.bestNeighbour(0));
            x.setShade(4, 7);
            due(4, x.bestNeighbour(0));
            x.setShade(1, 20);
            due(1, x.bestNeighbour(0));
        });
        says("Of several such neighbours, the one with the smaller herd is returned, then the one with the lower index.",
            () -> {
                ChairMigration x = after("p31;p32;p35;c10;c10;c20;c50;c50;f0;f1");
                due(2, x.bestNeighbour(3));
                x.addChair(2, 0);
                due(1, x.bestNeighbour(3));
                x.scrapChair(3);
                due(5, x.bestNeighbour(3));
                run(x, "s4;s5;s2");
                due(2, x.bestNeighbour(3));
                run(x, "c20");
                due(5, x.bestNeighbour(3));
            });
        says(LAWN, () -> {
            ChairMigration x = after("p05;p14;p23");
            eachLawn(lawn -> x.bestNeighbour(lawn), 5, 4, 3, 2, 1, 0);
        });
        says("Returns the index of the neighbour.", () -> {
            ChairMigration x = after("p40;p45;h0=0;h5=0;h4=20");
            due(0, x.bestNeighbour(4));
            x.setShade(5, 1);
            due(5, x.bestNeighbour(4));
        });
        says(NO_LAWN, () -> noLawn(no -> chain().bestNeighbour(no)));
        says("Throws `NoSuchElementException` if the lawn has no neighbours", () -> {
            ChairMigration x = after("p01");
            dueThrow(NO_ELEMENT, () -> x.bestNeighbour(2));
            due(0, x.bestNeighbour(1));
            x.removePath(0, 1);
            dueThrow(NO_ELEMENT, () -> x.bestNeighbour(1));
            dueThrow(NO_ELEMENT, () -> x.bestNeighbour(0));
        });
    }
}
