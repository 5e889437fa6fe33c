/** Each sentence under 'Terms' that names a boundary case, on registries worked out by hand. */
public final class TermsTest {
    private static final Checks CHECKS = new Checks("TermsTest");

    public static void main(String[] args) {
        cutTowardsZero();
        cornerCells();
        coveredCorners();
        daysFromZero();
        firstSuns();
        stepsFromOne();
        stepsAtMost();
        noWayAroundTheBorder();
        aslantAtTheBorder();
        tornDownCastsNothing();
        othersBetweenDoNotMatter();
        smallestStep();
        smallestStepOfWideOnes();
        ascendingOrder();
        descendingPrice();
        samePriceByNumber();
        nothingLeft();
        shortOfOneCell();
        endedTakesNothing();
        otherHoursTakeNothing();
        halfIsNotMoreThanHalf();
        warningsAreZeroAgain();
        twoWarnings();
        duskBehindTheLastHour();
        evictedLeavesItsCells();
        allOfOneDusk();
        paysForEachCell();
        amountsInAll();
        allTenants();
        CHECKS.finish();
    }

    private static void is(String what, long got, long due) {
        CHECKS.is(what, got, due);
    }

    /** A building of one cell, whose shade falls to the right in the hours 7 to 11, with the length 1 to 5. */
    private static ShadowLeases post(int x, int y, int height) {
        ShadowLeases square = new ShadowLeases();
        square.build(x, y, 1, 1, height, 0);
        return square;
    }

    /** "All numbers are whole, and / is cut towards 0." */
    private static void cutTowardsZero() {
        for (int height = 1; height <= 9; height++) {
            ShadowLeases x = post(0, 5, height);
            for (int length = 0; length <= 6; length++) {
                int due = 0;
                while (2 * (due + 1) <= length * height && due < 15) {
                    due++;
                }
                x.setSun(8, 1, 0, length);
                is("length " + length + ", height " + height, x.area(0, 8), due);
            }
        }
    }

    /** "16 columns, x, and 16 rows, y, each 0 to 15: 256 cells, the cell x + 16 * y." */
    private static void cornerCells() {
        int[][] corners = {{0, 0, 0}, {15, 0, 15}, {0, 15, 240}, {15, 15, 255}};
        for (int[] corner : corners) {
            int dx = corner[0] == 0 ? -1 : 1;
            int dy = corner[1] == 0 ? -1 : 1;
            ShadowLeases x = post(corner[0] - dx, corner[1] - dy, 2);
            x.setSun(4, dx, dy, 1);
            x.let(0, 0, 4, 4, 1, 1);
            is("the corner's cell", x.cellOf(0, 4, 0), corner[2]);
            is("the corner's shade", x.shade(4, corner[0], corner[1]), 0);
            is("no cell beyond the corner", x.area(0, 4), 1);
        }
    }

    private static void coveredCorners() {
        for (int corner = 0; corner < 4; corner++) {
            int column = corner % 2 * 15;
            int row = corner / 2 * 15;
            ShadowLeases x = post(column, row, 9);
            x.build(column == 0 ? 1 : 14, row, 1, 1, 9, 0);
            is("a covered corner", x.shade(0, column, row), -2);
            is("a covered corner", x.shades(column == 0 ? 0 : 11, column, row), 0);
            is("no shade on it", x.area(1, column == 0 ? 0 : 11), 0);
            x.tearDown(0);
            is("a corner that is free again", x.shade(column == 0 ? 0 : 11, column, row), 1);
        }
    }

    /** "The days are numbered from 0." "Then the day is 1 greater." */
    private static void daysFromZero() {
        ShadowLeases x = new ShadowLeases();
        for (int day = 0; day < 5; day++) {
            is("the day", x.count(0), day);
            x.pass(1);
        }
        x.pass(30);
        is("the day", x.count(0), 35);
    }

    /** "(At first: hours 0 to 4: -1, 0 and the length 5 less the hour; 5 and 6: 0, -1 and 1; 7 to 11: ...)" */
    private static void firstSuns() {
        int[] length = {5, 4, 3, 2, 1, 1, 1, 1, 2, 3, 4, 5};
        for (int hour = 0; hour < 12; hour++) {
            ShadowLeases x = post(7, 7, 2);
            int dx = hour < 5 ? -1 : hour < 7 ? 0 : 1;
            int dy = hour == 5 || hour == 6 ? -1 : 0;
            is("the reach at first, hour " + hour, x.shade(hour, 7 + length[hour] * dx, 7 + length[hour] * dy), 0);
            is("one more at first, hour " + hour,
                x.shade(hour, 7 + (length[hour] + 1) * dx, 7 + (length[hour] + 1) * dy), -1);
            is("the length at first", x.setSun(hour, 1, 1, 0), length[hour]);
        }
    }

    /** "A cell that no building covers", "for some k of at least 1". */
    private static void stepsFromOne() {
        ShadowLeases x = post(5, 5, 9);
        x.build(6, 5, 1, 1, 1, 0);
        is("k 0 is covered", x.shade(11, 5, 5), -2);
        is("k 0 is covered", x.shades(11, 5, 5), 0);
        is("k 1 is covered", x.shade(11, 6, 5), -2);
        is("k 1 is covered by another", x.shades(11, 6, 5), 0);
        is("k 2", x.shade(9, 7, 5), 1);
        is("k 2", x.shades(9, 7, 5), 2);
        x.tearDown(1);
        is("k 1", x.shade(11, 6, 5), 0);
        is("k -1", x.shade(11, 4, 5), -1);
    }

    /** "at most length * height / 2 (height: that of this building)" */
    private static void stepsAtMost() {
        ShadowLeases x = post(2, 3, 4);
        x.build(2, 6, 2, 1, 2, 0);
        x.setSun(8, 1, 0, 3);
        is("k 6 of 6", x.shade(8, 8, 3), 0);
        is("k 7 of 6", x.shade(8, 9, 3), -1);
        is("k 3 of 3 from the nearer cell", x.shade(8, 6, 6), 1);
        is("k 4 of 3 from the nearer cell", x.shade(8, 7, 6), -1);
        x.setSun(8, 1, 0, 0);
        is("length 0", x.shade(8, 3, 3), -1);
        x.setSun(8, 1, 0, 1);
        x.raise(0, 1);
        is("1 * 1 / 2 is 0", x.shade(8, 3, 3), -1);
        x.raise(0, 2);
        is("1 * 2 / 2 is 1", x.shade(8, 3, 3), 0);
        x.raise(0, 3);
        is("1 * 3 / 2 is 1", x.shade(8, 4, 3), -1);
        x.raise(0, 9);
        x.setSun(8, 1, 0, 6);
        is("6 * 9 / 2 is more than the square is wide", x.shade(8, 15, 3), 0);
    }

    /** A step beyond a row's last column is no cell, not the next row's first. */
    private static void noWayAroundTheBorder() {
        ShadowLeases right = post(15, 3, 9);
        is("right of the last column", right.area(0, 11), 0);
        is("the next row's first cell", right.shade(11, 0, 4), -1);
        is("left of the last column", right.area(0, 0), 15);
        ShadowLeases left = post(0, 3, 9);
        is("left of the first column", left.area(0, 0), 0);
        is("the row before's last cell", left.shade(0, 15, 2), -1);
        is("right of the first column", left.area(0, 11), 15);
        ShadowLeases above = post(3, 0, 9);
        is("above the first row", above.area(0, 5), 0);
        above.setSun(5, 0, 1, 6);
        is("below the first row", above.area(0, 5), 15);
        ShadowLeases below = post(3, 15, 9);
        is("above the last row", below.area(0, 5), 4);
        below.setSun(5, 0, 1, 6);
        is("below the last row", below.area(0, 5), 0);
    }

    private static void aslantAtTheBorder() {
        ShadowLeases x = post(12, 2, 9);
        x.setSun(0, 1, 1, 6);
        x.setSun(1, 1, -1, 6);
        x.setSun(2, -1, 1, 6);
        x.setSun(3, -1, -1, 6);
        is("to the right border", x.area(0, 0), 3);
        is("to the upper border", x.area(0, 1), 2);
        is("to the left border", x.area(0, 2), 12);
        is("to the upper border", x.area(0, 3), 2);
        is("the last cell below", x.shade(0, 15, 5), 0);
        is("the last cell above", x.shade(1, 14, 0), 0);
        is("the last cell on the left", x.shade(2, 0, 14), 0);
        is("not one row lower", x.shade(0, 0, 7), -1);
    }

    /** "One that is torn down keeps its number; it covers nothing and casts no shadow any more." */
    private static void tornDownCastsNothing() {
        ShadowLeases x = post(5, 5, 9);
        x.build(8, 5, 1, 1, 9, 0);
        x.tearDown(0);
        is("covers nothing", x.shade(0, 5, 5), 1);
        is("covers nothing", x.count(5), 1);
        is("casts no shadow", x.shade(8, 6, 5), -1);
        is("casts no shadow", x.shades(8, 9, 5), 1);
        is("casts no shadow", x.area(0, 8), 0);
        is("the number is not used again", x.build(5, 5, 1, 1, 1, 0), 2);
        is("keeps its number", x.building(0, 0), 5);
        is("keeps its number", x.building(0, 6), 0);
        is("what is built there stands", x.building(2, 6), 1);
    }

    /** "(Others that stand between do not matter.)" */
    private static void othersBetweenDoNotMatter() {
        ShadowLeases x = post(2, 5, 6);
        x.build(3, 5, 2, 1, 9, 0);
        x.setSun(9, 1, 0, 2);
        is("behind another", x.shades(9, 5, 5), 2);
        is("behind another", x.shades(9, 8, 5), 2);
        is("the farther one's last cell was k 6", x.shades(9, 9, 5), 1);
        x.raise(1, 1);
        is("behind a low one", x.shade(9, 6, 5), 0);
        is("area without what the other covers and has", x.area(0, 9), 3);
    }

    /** "It belongs to the one of these with the smallest k of this kind; the others overlap there." */
    private static void smallestStep() {
        ShadowLeases x = post(8, 5, 8);
        x.build(5, 5, 1, 1, 8, 0);
        x.build(2, 5, 1, 1, 8, 0);
        x.setSun(9, 1, 0, 6);
        x.setSun(2, -1, 0, 6);
        is("the first built is the nearest", x.shade(9, 9, 5), 0);
        is("the last built is the nearest", x.shade(2, 1, 5), 2);
        is("the middle one", x.shade(9, 6, 5), 1);
        is("the middle one", x.shade(2, 4, 5), 1);
        is("all three", x.shades(9, 9, 5), 3);
        is("overlapped", x.inHour(9, 1), 2 + 7);
        is("in some shade", x.inHour(9, 0), 2 + 2 + 7);
        is("each cell has one holder", x.area(0, 9) + x.area(1, 9) + x.area(2, 9), 11);
    }

    /** The smallest k counts from the building's nearest cell, not from its first one. */
    private static void smallestStepOfWideOnes() {
        ShadowLeases x = new ShadowLeases();
        x.build(0, 0, 6, 1, 8, 0);
        x.build(0, 1, 3, 1, 8, 0);
        x.setSun(9, 1, 0, 1);
        is("k 4 from the last column", x.shade(9, 9, 0), 0);
        is("k 5 from the last column", x.shade(9, 10, 0), -1);
        is("one shade of a wide one", x.shades(9, 6, 0), 1);
        x.setSun(9, -1, 1, 1);
        is("below a wide one", x.shade(9, 3, 1), 0);
        is("the nearer one below", x.shade(9, 1, 2), 1);
        is("the farther one below", x.shade(9, 2, 2), 0);
        is("both below", x.shades(9, 1, 2), 2);
    }

    /** "The shade of a building in an hour is the set of the cells that belong to it, in ascending order." */
    private static void ascendingOrder() {
        ShadowLeases x = new ShadowLeases();
        x.build(6, 6, 2, 2, 4, 0);
        x.let(0, 0, 0, 11, 60, 1);
        int[][] due = {{68, 69, 84, 85, 86, 101, -1}, {38, 39, 54, 55, 70, 71, 86, 87, -1}};
        x.setSun(0, -1, -1, 1);
        x.setSun(1, 0, -1, 2);
        for (int hour = 0; hour < 2; hour++) {
            for (int index = 0; index < due[hour].length; index++) {
                is("the cell " + index, x.cellOf(0, hour, index), due[hour][index]);
            }
        }
    }

    /** A post at the column 0 whose shade in the hour 7 are the cells 81 to 84. */
    private static ShadowLeases fourCells() {
        return post(0, 5, 8);
    }

    /** "in descending order of price" */
    private static void descendingPrice() {
        ShadowLeases x = fourCells();
        x.let(0, 0, 7, 7, 1, 1);
        x.let(0, 0, 7, 7, 1, 99);
        x.let(0, 0, 7, 7, 1, 98);
        x.let(0, 0, 7, 7, 1, 2);
        int[] due = {84, 81, 82, 83};
        for (int lease = 0; lease < 4; lease++) {
            is("by its price", x.cellOf(lease, 7, 0), due[lease]);
        }
    }

    /** "of the same price of their numbers in ascending order" */
    private static void samePriceByNumber() {
        ShadowLeases x = fourCells();
        x.let(0, 0, 7, 7, 1, 50);
        x.let(0, 0, 7, 7, 3, 50);
        x.let(0, 0, 7, 7, 1, 50);
        is("the first number", x.cellOf(0, 7, 0), 81);
        is("the second number", x.cellOf(1, 7, 0), 82);
        is("the third number", x.gets(2, 7), 0);
        x.setPrice(2, 51);
        is("one more in price", x.cellOf(2, 7, 0), 81);
        is("one more in price", x.gets(1, 7), 2);
        x.setPrice(2, 50);
        is("the same price again", x.gets(2, 7), 0);
    }

    /** "each one gets the first cells that are still free, as many as it has, or all that are left" */
    private static void nothingLeft() {
        ShadowLeases x = fourCells();
        x.let(0, 0, 7, 7, 3, 9);
        x.let(0, 0, 7, 7, 60, 8);
        x.let(0, 0, 7, 7, 1, 7);
        is("as many as it has", x.gets(0, 7), 3);
        is("all that are left", x.gets(1, 7), 1);
        is("the last one left", x.cellOf(1, 7, 0), 84);
        is("none is left", x.gets(2, 7), 0);
        is("none is left", x.cellOf(2, 7, 0), -1);
        is("all are let", x.inHour(7, 2), 4);
    }

    /** "It is short, if it gets fewer." */
    private static void shortOfOneCell() {
        ShadowLeases x = fourCells();
        x.let(0, 0, 7, 7, 4, 9);
        is("just enough", x.lease(0, 9), 0);
        is("just enough", x.inHour(7, 3), 0);
        x.let(0, 0, 7, 7, 1, 10);
        is("one too few", x.lease(0, 9), 1);
        is("one too few", x.inHour(7, 3), 1);
        is("one too few", x.gets(0, 7), 3);
        x.setSun(7, 1, 0, 0);
        is("no cell at all", x.inHour(7, 3), 2);
    }

    /** "its leases that stand" */
    private static void endedTakesNothing() {
        ShadowLeases x = fourCells();
        x.let(0, 0, 7, 7, 4, 9);
        x.let(0, 0, 7, 7, 4, 8);
        is("behind the dearer one", x.gets(1, 7), 0);
        x.end(0);
        is("the dearer one has ended", x.gets(1, 7), 4);
        is("the dearer one has ended", x.inHour(7, 3), 0);
    }

    /** "and have this hour" */
    private static void otherHoursTakeNothing() {
        ShadowLeases x = fourCells();
        x.let(0, 0, 8, 9, 4, 9);
        x.let(0, 0, 7, 10, 4, 8);
        is("the hour before", x.gets(0, 7), 0);
        is("the hour before", x.gets(1, 7), 4);
        is("the first hour", x.cellOf(0, 8, 0), 81);
        is("the first hour", x.cellOf(1, 8, 0), 85);
        is("the last hour", x.cellOf(1, 9, 0), 85);
        is("the hour behind", x.gets(0, 10), 0);
        is("the hour behind", x.cellOf(1, 10, 0), 81);
        is("no hour of either", x.inHour(11, 2), 0);
    }

    /** "short in more than half of its hours of this day (2 * short hours greater than its hours)" */
    private static void halfIsNotMoreThanHalf() {
        for (int hours = 1; hours <= 12; hours++) {
            for (int missing = 0; missing <= hours; missing++) {
                ShadowLeases x = post(0, 5, 2);
                for (int hour = 0; hour < 12; hour++) {
                    x.setSun(hour, 1, 0, hour < missing ? 0 : 1);
                }
                x.let(0, 0, 0, hours - 1, 1, 1);
                is("short hours", x.lease(0, 9), missing);
                x.pass(1);
                is(missing + " short of " + hours, x.lease(0, 7), 2 * missing > hours ? 1 : 0);
            }
        }
    }

    /** "otherwise its warnings are 0 again" */
    private static void warningsAreZeroAgain() {
        ShadowLeases x = fourCells();
        x.let(0, 0, 7, 7, 5, 1);
        for (int time = 0; time < 4; time++) {
            is("no eviction", x.pass(1), 0);
            is("one warning", x.lease(0, 7), 1);
            x.setSun(7, 1, 0, 2);
            is("no eviction", x.pass(1), 0);
            is("none again", x.lease(0, 7), 0);
            x.setSun(7, 1, 0, 1);
        }
        is("it stands", x.lease(0, 6), 1);
    }

    /** "with 2 warnings it ends (it is evicted)" */
    private static void twoWarnings() {
        ShadowLeases x = fourCells();
        x.let(0, 0, 7, 7, 5, 1);
        is("one warning", x.pass(1), 0);
        is("it stands with one", x.lease(0, 6), 1);
        is("two warnings", x.pass(1), 1);
        is("it ends with two", x.lease(0, 6), 0);
        is("it keeps them", x.lease(0, 7), 2);
        is("it keeps its number", x.let(0, 0, 7, 7, 4, 1), 1);
        is("it keeps its building", x.lease(0, 0), 0);
        is("evicted", x.count(3), 1);
        is("it is evicted once", x.pass(30), 0);
        is("it is warned no more", x.lease(0, 7), 2);
        is("it paid for two days", x.lease(0, 8), 8);
    }

    /** "At dusk, behind the hour 11" */
    private static void duskBehindTheLastHour() {
        ShadowLeases x = post(0, 5, 2);
        x.let(0, 3, 10, 11, 60, 7);
        x.let(0, 4, 11, 11, 1, 6);
        x.pass(1);
        is("evicted at the second dusk", x.pass(1), 2);
        is("it paid for the hour 11 before", x.paid(3), 2 * (4 + 5) * 7);
        is("nothing was left for the other one", x.paid(4), 0);
    }

    private static void evictedLeavesItsCells() {
        ShadowLeases x = fourCells();
        x.let(0, 1, 7, 8, 5, 9);
        x.let(0, 2, 7, 8, 2, 8);
        x.setSun(8, 1, 0, 1);
        x.pass(1);
        x.setPrice(1, 9);
        is("behind the one that is warned", x.gets(1, 7), 0);
        x.end(1);
        x.let(0, 2, 7, 8, 2, 8);
        is("evicted", x.pass(1), 1);
        is("its cells are free", x.gets(2, 7), 2);
        is("its cells are free", x.inHour(8, 3), 0);
        x.pass(1);
        is("they are paid for on the next day", x.paid(2), 2 * 2 * 8);
    }

    /** Warnings tell of the day that is over: one that ends at its dusk leaves nothing to it. */
    private static void allOfOneDusk() {
        ShadowLeases x = fourCells();
        x.let(0, 0, 7, 7, 5, 9);
        x.let(0, 0, 7, 7, 1, 8);
        x.pass(1);
        is("both are evicted", x.pass(1), 2);
        ShadowLeases y = fourCells();
        y.let(0, 0, 7, 7, 1, 8);
        y.let(0, 0, 7, 7, 5, 9);
        y.pass(1);
        is("both are evicted, the other way round", y.pass(1), 2);
    }

    /** "pays its price for each cell that it gets: to the owner of the building, by the tenant" */
    private static void paysForEachCell() {
        ShadowLeases x = fourCells();
        x.build(0, 7, 1, 1, 8, 7);
        x.let(0, 15, 7, 8, 1, 99);
        x.let(0, 0, 7, 7, 60, 1);
        x.let(1, 15, 7, 7, 2, 10);
        x.pass(1);
        is("for two hours", x.lease(0, 8), 2 * 99);
        is("for what it gets alone", x.lease(1, 8), 3);
        is("the owner 0", x.got(0), 2 * 99 + 3);
        is("the owner 7", x.got(7), 20);
        is("the tenant 15", x.paid(15), 2 * 99 + 20);
        is("the tenant 0", x.paid(0), 3);
    }

    /** "what all tenants have paid": the first and the last, too. */
    private static void allTenants() {
        ShadowLeases x = post(0, 5, 8);
        x.setSun(7, 1, 0, 6);
        for (int tenant = 0; tenant < 15; tenant++) {
            x.let(0, tenant, 7, 7, 1, 1 + tenant);
        }
        x.pass(1);
        is("15 tenants", x.count(4), 15 * 16 / 2);
        is("the first one", x.paid(0), 1);
        x.end(0);
        x.let(0, 15, 7, 7, 1, 99);
        x.pass(1);
        is("and the last one", x.paid(15), 99);
        is("16 tenants", x.count(4), 120 + 119 + 99);
    }

    /** "what owners got, and tenants paid, in all" */
    private static void amountsInAll() {
        ShadowLeases x = fourCells();
        x.let(0, 5, 7, 7, 2, 10);
        x.pass(1);
        x.setPrice(0, 20);
        is("a new price is not paid for days gone by", x.lease(0, 8), 20);
        x.pass(1);
        is("and then it is paid", x.lease(0, 8), 20 + 40);
        x.end(0);
        x.pass(1);
        is("nothing behind its end", x.paid(5), 60);
        x.tearDown(0);
        is("the owner keeps it", x.got(0), 60);
        is("all of it", x.count(4), 60);
    }
}
