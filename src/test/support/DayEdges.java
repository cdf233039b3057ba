/** Promises 32 to 37: the days, the seasons and the forecasts. */
final class DayEdges extends Edges {
    private static final String DAYS = "`days`: the number of days, 1 to 20";
    private static final String NO_DAYS = "Throws `IllegalArgumentException` if days is out of range";

    static void all() {
        passDays();
        day();
        season();
        daysUntil();
        wouldCollapse();
        collapseDay();
    }

    /** On the last day of autumn: the chairs 0 and 1 collapse on the second of the coming days, chair 2 on the third. */
    private static ChairMigration aheadOfWinter() {
        return after("d14;c09;c19;c18;c58;f3");
    }

    private static void passDays() {
        part("passDays");
        says("Lets days pass.", () -> {
            ChairMigration x = after("h0=1;c02;c02");
            x.passDays(3);
            due(3, x.day());
            due(3, x.ageOf(0));
            due("5 14 14 14 14 14", shades(x));
            due(5, x.grazedShade());
            due(5, x.totalRust());
        });
        says(DAYS, () -> {
            for (int days = 1; days <= 20; days++) {
                ChairMigration x = new ChairMigration();
                x.passDays(days);
                due(days, x.day());
            }
        });
        says("Returns the number of chairs that collapse.", () -> {
            due(0, aheadOfWinter().passDays(1));
            due(2, aheadOfWinter().passDays(2));
            due(3, aheadOfWinter().passDays(3));
            due(3, aheadOfWinter().passDays(20));
            ChairMigration x = aheadOfWinter();
            x.passDays(2);
            due(1, x.passDays(1));
            due(0, x.passDays(1));
            due(0, new ChairMigration().passDays(20));
        });
        says(NO_DAYS, () -> {
            ChairMigration x = new ChairMigration();
            outOfRange(days -> x.passDays(days), 0, 21, -1, 22);
            due(0, x.day());
        });
    }

    private static void day() {
        part("day");
        says("Returns the number of days that have passed so far.", () -> {
            ChairMigration x = after("d20;d20;d1");
            due(41, x.day());
            x.undo();
            due(0, x.day());
            x.wouldCollapse(20);
            due(0, x.day());
        });
        says("Returns the number of days.", () -> {
            ChairMigration x = new ChairMigration();
            due(0, x.day());
            x.passDays(1);
            due(1, x.day());
            for (int call = 0; call < 15; call++) {
                run(x, "d20;d20;d20;d20;d20;d20;d20");
            }
            due(2101, x.day());
        });
    }

    private static void season() {
        part("season");
        says("Returns the season of the coming day.", () -> {
            ChairMigration x = new ChairMigration();
            x.passDays(4);
            due(0, x.season());
            x.passDays(1);
            due(1, x.season());
            x.undo();
            due(0, x.season());
        });
        says("Returns 0 for spring, 1 for summer, 2 for autumn, 3 for winter.", () -> {
            ChairMigration x = new ChairMigration();
            int[] want = {0, 1, 2, 3, 0, 1, 2, 3, 0};
            for (int season : want) {
                due(season, x.season());
                x.passDays(5);
            }
        });
    }

    private static void daysUntil() {
        part("daysUntil");
        says("Returns after how many days the season of the coming day will be a given one for the first time.", () -> {
            ChairMigration x = new ChairMigration();
            for (int day = 0; day <= 40; day++) {
                for (int season = 0; season < 4; season++) {
                    int days = 0;
                    while ((day + days) % 20 / 5 != season) {
                        days++;
                    }
                    due(days, x.daysUntil(season));
                }
                x.passDays(1);
            }
        });
        says("`season`: the season, 0 to 3", () -> {
            ChairMigration x = new ChairMigration();
            x.passDays(12);
            due(8, x.daysUntil(0));
            due(13, x.daysUntil(1));
            due(0, x.daysUntil(2));
            due(3, x.daysUntil(3));
        });
        says("Returns the number of days, 0 if it is this season now.", () -> {
            ChairMigration x = new ChairMigration();
            int[] first = {0, 1, 2, 3, 0};
            for (int season : first) {
                due(0, x.daysUntil(season));
                x.passDays(4);
                due(0, x.daysUntil(season));
                due(1, x.daysUntil((season + 1) % 4));
                due(11, x.daysUntil((season + 3) % 4));
                x.passDays(1);
                due(15, x.daysUntil(season));
            }
        });
        says("Throws `IllegalArgumentException` if season is out of range", () -> {
            outOfRange(season -> new ChairMigration().daysUntil(season), -1, 4, -2, 5);
            outOfRange(season -> aheadOfWinter().daysUntil(season), -1, 4, -2, 5);
        });
    }

    private static void wouldCollapse() {
        part("wouldCollapse");
        says("Returns how many chairs would collapse if some days passed now.", () -> {
            ChairMigration x = after("h0=0;c09;c08;c09;f2;c19");
            String before = data(x);
            due(1, x.wouldCollapse(1));
            due(1, x.wouldCollapse(15));
            due(3, x.wouldCollapse(16));
            due(before, data(x));
            due(3, x.passDays(16));
            due(0, x.wouldCollapse(20));
        });
        says(DAYS, () -> {
            ChairMigration x = after("c09");
            for (int days = 1; days <= 15; days++) {
                due(0, x.wouldCollapse(days));
            }
            for (int days = 16; days <= 20; days++) {
                due(1, x.wouldCollapse(days));
            }
            ChairMigration last = after("c05");
            due(0, last.wouldCollapse(19));
            due(1, last.wouldCollapse(20));
        });
        says("Returns the number of chairs.", () -> {
            due(0, new ChairMigration().wouldCollapse(20));
            due(0, aheadOfWinter().wouldCollapse(1));
            due(2, aheadOfWinter().wouldCollapse(2));
            due(3, aheadOfWinter().wouldCollapse(3));
            ChairMigration all = after("c09;c09;c09;c09;c09;c19;c19;c19;c19;c19;c29;c29", "h0=0;h1=0;h2=0");
            due(12, all.wouldCollapse(1));
            due(12, all.chairCount());
        });
        says(NO_DAYS, () -> outOfRange(days -> aheadOfWinter().wouldCollapse(days), 0, 21, -1, 22));
    }

    private static void collapseDay() {
        part("collapseDay");
        says("Returns on which of the coming days a chair will collapse if nothing else happens.", () -> {
            ChairMigration x = aheadOfWinter();
            String before = data(x);
            due(2, x.collapseDay(0));
            due(2, x.collapseDay(1));
            due(3, x.collapseDay(2));
            due(before, data(x));
            x.passDays(1);
            due(1, x.collapseDay(0));
            due(2, x.collapseDay(2));
            x.oilChair(2);
            due(5, x.collapseDay(2));
            // What the others of the herd graze counts too.
            ChairMigration hungry = after("c00;c00;c00;c00;c09;h0=4");
            due(1, hungry.collapseDay(4));
            due(2, after("c00;c00;c00;c09;h0=4").collapseDay(3));
            due(16, after("c00;c09;h0=4").collapseDay(1));
        });
        says("`chair`: the id of a chair", () -> {
            ChairMigration x = rustyEnds();
            run(x, "f1;f2;f3;f4");
            due(16, x.collapseDay(0));
            due(17, x.collapseDay(11));
        });
        says("Returns the day, 1 for the coming one.", () -> {
            ChairMigration x = after("h0=0;c09;c15;c24;c30");
            due(1, x.collapseDay(0));
            due(20, x.collapseDay(1));
            due(36, x.collapseDay(2));
            due(40, x.collapseDay(3));
            // No chair that isn't folded lasts longer: ten days of winter are always among the next 40.
            ChairMigration winter = after("d16;c00");
            due(40, winter.collapseDay(0));
        });
        says("Throws `IndexOutOfBoundsException` if there is no chair with this id",
            () -> noChair(no -> withGoneChairs().collapseDay(no)));
        says("Throws `NoSuchElementException` if it will not collapse within 100 days", () -> {
            ChairMigration x = after("h0=0;c09;c09;f0");
            dueThrow(NO_ELEMENT, () -> x.collapseDay(0));
            due(1, x.collapseDay(1));
            x.passDays(20);
            dueThrow(NO_ELEMENT, () -> x.collapseDay(0));
            x.unfold(0);
            due(16, x.collapseDay(0));
        });
    }
}
