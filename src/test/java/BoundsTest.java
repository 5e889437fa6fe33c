import java.util.function.IntFunction;

/**
 * Each sentence of the document that says what a call takes: the smallest and the largest value, those
 * next to them, which are refused and leave every answer as it was, and which exception comes first.
 */
public final class BoundsTest {
    private static final int MIN = Integer.MIN_VALUE;
    private static final int MAX = Integer.MAX_VALUE;
    private static final Class<IndexOutOfBoundsException> INDEX = IndexOutOfBoundsException.class;
    private static final Class<IllegalArgumentException> ARGUMENT = IllegalArgumentException.class;
    private static final Class<IllegalStateException> STATE = IllegalStateException.class;
    private static final Checks CHECKS = new Checks("BoundsTest");
    private static final Scene EMPTY = new Scene(CHECKS, "the new registry", x -> { });
    private static final Scene VILLAGE = new Scene(CHECKS, "the village", BoundsTest::village);
    private static final Scene TOWN = new Scene(CHECKS, "the full town", BoundsTest::town);
    private static final Scene END = new Scene(CHECKS, "the village on the day 1000", BoundsTest::lastDay);

    private interface Use {
        Object of(ShadowLeases x, int value);
    }

    public static void main(String[] args) {
        buildSizes();
        buildPlaces();
        buildHeightAndOwner();
        buildOverlaps();
        buildOrder();
        tearDownBuilding();
        raiseBounds();
        raiseOrder();
        setSunBounds();
        setSunDirections();
        setSunOrder();
        buildingBounds();
        shadeBounds();
        shadesBounds();
        areaBounds();
        inHourBounds();
        letBuilding();
        letTenantAndHours();
        letCellsAndPrice();
        letOrder();
        endBounds();
        setPriceBounds();
        setPriceOrder();
        leaseBounds();
        getsBounds();
        cellOfBounds();
        cellOfIndex();
        passBounds();
        passOrder();
        countGotAndPaid();
        adviseBounds();
        adviseOrder();
        wouldGetBounds();
        wouldGetOrder();
        questionsChangeNothing();
        CHECKS.finish();
    }

    /** Buildings 0 to 2 stand, 3 is torn down; leases 0, 1, 4, 7 and 8 stand, 2 and 3 were evicted. */
    private static void village(ShadowLeases x) {
        x.build(4, 4, 2, 3, 4, 3);
        x.build(10, 4, 1, 1, 9, 0);
        x.build(0, 10, 3, 2, 6, 7);
        x.build(8, 10, 2, 2, 5, 1);
        x.let(0, 1, 7, 7, 2, 10);
        x.let(0, 2, 7, 7, 3, 20);
        x.let(0, 3, 7, 7, 2, 10);
        x.let(1, 4, 0, 11, 60, 99);
        x.let(2, 15, 2, 9, 5, 1);
        x.let(3, 5, 0, 3, 1, 50);
        x.let(0, 6, 3, 3, 1, 5);
        x.pass(1);
        x.let(0, 9, 5, 6, 60, 2);
        x.tearDown(3);
        x.end(6);
        x.pass(1);
        x.let(1, 4, 8, 11, 60, 99);
        x.setSun(3, 1, -1, 6);
    }

    /** 12 buildings, of which 5 is torn down, and 40 leases, of which 9 has ended. */
    private static void town(ShadowLeases x) {
        for (int number = 0; number < 12; number++) {
            x.build(number, 15, 1, 1, 1 + number % 9, number % 8);
        }
        for (int number = 0; number < 40; number++) {
            x.let(number % 12, number % 16, number % 6, 6 + number % 6, 1 + number, 1 + number % 7);
        }
        x.tearDown(5);
        x.end(9);
        x.pass(1);
    }

    private static void lastDay(ShadowLeases x) {
        village(x);
        for (int i = 0; i < 33; i++) {
            x.pass(30);
        }
        x.pass(8);
    }

    private static void bounds(String sentence, Scene scene, int least, int most,
            Class<? extends RuntimeException> due, Use use, IntFunction<Object> answer) {
        for (int good = least; good <= most; good++) {
            int value = good;
            scene.answers(sentence + ", " + value, answer.apply(value), x -> use.of(x, value));
        }
        for (int bad : new int[] {least - 1, most + 1, MIN, MAX}) {
            scene.refuses(sentence + ", " + bad, due, x -> use.of(x, bad));
        }
    }

    private static void buildSizes() {
        bounds("wide is 1 to 6", VILLAGE, 1, 6, ARGUMENT,
            (x, v) -> x.building(x.build(0, 15, v, 1, 1, 0), 2), v -> v);
        bounds("deep is 1 to 6", VILLAGE, 1, 6, ARGUMENT,
            (x, v) -> x.building(x.build(15, 0, 1, v, 1, 0), 3), v -> v);
        bounds("both are 1 to 6", EMPTY, 1, 6, ARGUMENT,
            (x, v) -> x.building(x.build(0, 0, v, v, 1, 0), 2), v -> v);
    }

    private static void buildPlaces() {
        for (int size = 1; size <= 6; size++) {
            int s = size;
            bounds("the columns are all in the square, wide " + s, VILLAGE, 0, 16 - s, ARGUMENT,
                (x, v) -> x.building(x.build(v, 15, s, 1, 1, 0), 0), v -> v);
            bounds("the rows are all in the square, deep " + s, VILLAGE, 0, 16 - s, ARGUMENT,
                (x, v) -> x.building(x.build(15, v, 1, s, 1, 0), 1), v -> v);
        }
        VILLAGE.refuses("the last column is 15", ARGUMENT, x -> x.build(15, 0, 2, 1, 1, 0));
        VILLAGE.refuses("the last row is 15", ARGUMENT, x -> x.build(0, 15, 1, 2, 1, 0));
        VILLAGE.refuses("the last cell is 255", ARGUMENT, x -> x.build(16, 16, 1, 1, 1, 0));
    }

    private static void buildHeightAndOwner() {
        bounds("height is 1 to 9", VILLAGE, 1, 9, ARGUMENT,
            (x, v) -> x.building(x.build(0, 0, 1, 1, v, 0), 4), v -> v);
        bounds("owner is 0 to 7", VILLAGE, 0, 7, ARGUMENT,
            (x, v) -> x.building(x.build(0, 0, 1, 1, 1, v), 5), v -> v);
    }

    /** Building 0 covers the columns 4 and 5 and the rows 4 to 6. */
    private static void buildOverlaps() {
        VILLAGE.refuses("overlaps another one: the same", STATE, x -> x.build(4, 4, 2, 3, 4, 3));
        VILLAGE.refuses("overlaps another one: inside", STATE, x -> x.build(5, 5, 1, 1, 1, 0));
        VILLAGE.refuses("overlaps another one: around", STATE, x -> x.build(3, 3, 6, 6, 1, 0));
        VILLAGE.refuses("overlaps another one: its first cell", STATE, x -> x.build(2, 2, 3, 3, 1, 0));
        VILLAGE.refuses("overlaps another one: its last cell", STATE, x -> x.build(5, 6, 3, 3, 1, 0));
        VILLAGE.refuses("overlaps another one: its right corner", STATE, x -> x.build(5, 2, 3, 3, 1, 0));
        VILLAGE.refuses("overlaps another one: its left corner", STATE, x -> x.build(2, 6, 3, 3, 1, 0));
        VILLAGE.refuses("overlaps another one: across", STATE, x -> x.build(2, 5, 6, 1, 1, 0));
        VILLAGE.refuses("overlaps another one: along", STATE, x -> x.build(4, 2, 1, 6, 1, 0));
        VILLAGE.answers("does not overlap: left", 4, x -> x.build(2, 4, 2, 3, 1, 0));
        VILLAGE.answers("does not overlap: right", 4, x -> x.build(6, 4, 2, 3, 1, 0));
        VILLAGE.answers("does not overlap: above", 4, x -> x.build(4, 2, 2, 2, 1, 0));
        VILLAGE.answers("does not overlap: below", 4, x -> x.build(4, 7, 2, 3, 1, 0));
        VILLAGE.answers("does not overlap: aslant", 4, x -> x.build(6, 7, 1, 1, 1, 0));
        VILLAGE.answers("one that is torn down covers nothing", 4, x -> x.build(8, 10, 2, 2, 5, 1));
    }

    private static void buildOrder() {
        VILLAGE.refuses("argument, then overlap: wide", ARGUMENT, x -> x.build(4, 4, 7, 1, 1, 0));
        VILLAGE.refuses("argument, then overlap: deep", ARGUMENT, x -> x.build(4, 4, 1, 0, 1, 0));
        VILLAGE.refuses("argument, then overlap: height", ARGUMENT, x -> x.build(4, 4, 1, 1, 10, 0));
        VILLAGE.refuses("argument, then overlap: owner", ARGUMENT, x -> x.build(4, 4, 1, 1, 1, 8));
        VILLAGE.refuses("argument, then overlap: the square", ARGUMENT, x -> x.build(-1, 10, 3, 2, 1, 0));
        TOWN.refuses("argument, then 12: wide", ARGUMENT, x -> x.build(0, 0, 0, 1, 1, 0));
        TOWN.refuses("argument, then 12: deep", ARGUMENT, x -> x.build(0, 0, 1, 7, 1, 0));
        TOWN.refuses("argument, then 12: column", ARGUMENT, x -> x.build(16, 0, 1, 1, 1, 0));
        TOWN.refuses("argument, then 12: row", ARGUMENT, x -> x.build(0, -1, 1, 1, 1, 0));
        TOWN.refuses("argument, then 12: height", ARGUMENT, x -> x.build(0, 0, 1, 1, 0, 0));
        TOWN.refuses("argument, then 12: owner", ARGUMENT, x -> x.build(0, 0, 1, 1, 1, -1));
        TOWN.refuses("overlap and 12", STATE, x -> x.build(0, 15, 1, 1, 1, 0));
    }

    private static void tearDownBuilding() {
        int[] leases = {3, 1, 1};
        bounds("tearDown: there is such a building, and it stands", VILLAGE, 0, 2, INDEX,
            (x, v) -> x.tearDown(v), v -> leases[v]);
        VILLAGE.refuses("tearDown: behind the last one", INDEX, x -> x.tearDown(4));
        bounds("tearDown: of 12", TOWN, 6, 11, INDEX, (x, v) -> x.tearDown(v), v -> v == 9 ? 2 : 3);
    }

    private static void raiseBounds() {
        int[] heights = {4, 9, 6};
        bounds("raise: there is such a building, and it stands", VILLAGE, 0, 2, INDEX,
            (x, v) -> x.raise(v, 5), v -> heights[v]);
        VILLAGE.refuses("raise: behind the last one", INDEX, x -> x.raise(4, 5));
        bounds("raise: height is 1 to 9", VILLAGE, 1, 9, ARGUMENT,
            (x, v) -> x.raise(1, v) * 10 + x.building(1, 4), v -> 90 + v);
    }

    private static void raiseOrder() {
        for (int wrong : new int[] {0, 10}) {
            VILLAGE.refuses("raise: no such building, then height", INDEX, x -> x.raise(4, wrong));
            VILLAGE.refuses("raise: building -1, then height", INDEX, x -> x.raise(-1, wrong));
            VILLAGE.refuses("raise: torn down, then height", INDEX, x -> x.raise(3, wrong));
        }
    }

    private static void setSunBounds() {
        int[] lengths = {5, 4, 3, 6, 1, 1, 1, 1, 2, 3, 4, 5};
        bounds("setSun: hour is 0 to 11", VILLAGE, 0, 11, INDEX,
            (x, v) -> x.setSun(v, 1, 1, 4) * 10 + x.setSun(v, 1, 1, 4), v -> lengths[v] * 10 + 4);
        bounds("setSun: dx is -1 to 1", VILLAGE, -1, 1, ARGUMENT, (x, v) -> x.setSun(7, v, 1, 2), v -> 1);
        bounds("setSun: dy is -1 to 1", VILLAGE, -1, 1, ARGUMENT, (x, v) -> x.setSun(7, 1, v, 2), v -> 1);
        bounds("setSun: length is 0 to 6", VILLAGE, 0, 6, ARGUMENT,
            (x, v) -> x.setSun(3, 1, 0, v) * 10 + x.setSun(3, 1, 0, 1), v -> 60 + v);
    }

    private static void setSunDirections() {
        for (int length = 0; length <= 6; length++) {
            int taken = length;
            VILLAGE.refuses("setSun: not both 0, length " + length, ARGUMENT, x -> x.setSun(3, 0, 0, taken));
        }
        for (int way = 0; way < 9; way++) {
            int dx = way % 3 - 1;
            int dy = way / 3 - 1;
            if (dx != 0 || dy != 0) {
                VILLAGE.answers("setSun: the way " + dx + ", " + dy, 6, x -> x.setSun(3, dx, dy, 1));
            }
        }
        VILLAGE.refuses("setSun: dx alone is wrong, dy 0", ARGUMENT, x -> x.setSun(3, 2, 0, 1));
        VILLAGE.refuses("setSun: dy alone is wrong, dx 0", ARGUMENT, x -> x.setSun(3, 0, -2, 1));
    }

    private static void setSunOrder() {
        for (int hour : new int[] {-1, 12}) {
            VILLAGE.refuses("setSun: hour, then dx", INDEX, x -> x.setSun(hour, 2, 1, 1));
            VILLAGE.refuses("setSun: hour, then dy", INDEX, x -> x.setSun(hour, 1, -2, 1));
            VILLAGE.refuses("setSun: hour, then both 0", INDEX, x -> x.setSun(hour, 0, 0, 1));
            VILLAGE.refuses("setSun: hour, then length", INDEX, x -> x.setSun(hour, 1, 1, 7));
        }
    }

    private static void buildingBounds() {
        int[] owners = {3, 0, 7, 1};
        int[] due = {0, 10, 3, 2, 6, 7, 1, 1};
        int[] tornDown = {8, 10, 2, 2, 5, 1, 0, 0};
        bounds("building: there is such a building", VILLAGE, 0, 3, INDEX, (x, v) -> x.building(v, 5), v -> owners[v]);
        bounds("building: what is 0 to 7", VILLAGE, 0, 7, INDEX, (x, v) -> x.building(2, v), v -> due[v]);
        bounds("building: what is 0 to 7, torn down", VILLAGE, 0, 7, INDEX,
            (x, v) -> x.building(3, v), v -> tornDown[v]);
        bounds("building: of 12", TOWN, 0, 11, INDEX, (x, v) -> x.building(v, 0), v -> v);
    }

    private static void shadeBounds() {
        bounds("shade: hour is 0 to 11", VILLAGE, 0, 11, INDEX, (x, v) -> x.shade(v, 4, 4), v -> -2);
        bounds("shade: x is 0 to 15", VILLAGE, 0, 15, INDEX, (x, v) -> x.shade(9, v, 4),
            v -> v == 4 || v == 5 || v == 10 ? -2 : v >= 11 ? 1 : v > 5 ? 0 : -1);
        bounds("shade: y is 0 to 15", VILLAGE, 0, 15, INDEX, (x, v) -> x.shade(5, 4, v),
            v -> v >= 4 && v <= 6 ? -2 : v == 2 || v == 3 ? 0 : -1);
    }

    private static void shadesBounds() {
        bounds("shades: hour is 0 to 11", VILLAGE, 0, 11, INDEX, (x, v) -> x.shades(v, 4, 4), v -> 0);
        bounds("shades: x is 0 to 15", VILLAGE, 0, 15, INDEX, (x, v) -> x.shades(9, v, 4),
            v -> v <= 5 || v == 10 ? 0 : v == 11 ? 2 : 1);
        bounds("shades: y is 0 to 15", VILLAGE, 0, 15, INDEX, (x, v) -> x.shades(5, 4, v),
            v -> v == 2 || v == 3 ? 1 : 0);
    }

    private static void areaBounds() {
        int[] areas = {24, 5, 26, 0};
        int[] hours = {12, 12, 12, 19, 6, 4, 4, 6, 12, 16, 20, 24};
        bounds("area: there is such a building", VILLAGE, 0, 3, INDEX, (x, v) -> x.area(v, 11), v -> areas[v]);
        bounds("area: hour is 0 to 11", VILLAGE, 0, 11, INDEX, (x, v) -> x.area(0, v), v -> hours[v]);
        bounds("area: hour is 0 to 11, torn down", VILLAGE, 0, 11, INDEX, (x, v) -> x.area(3, v), v -> 0);
    }

    private static void inHourBounds() {
        int[] let = {0, 0, 0, 5, 0, 5 + 4, 5 + 4, 5 + 2 + 3, 5 + 5, 5 + 5, 5, 5};
        int[] due = {6 + 4 + 6, 0, 2 + 3 + 5, 0};
        bounds("inHour: hour is 0 to 11", VILLAGE, 0, 11, INDEX, (x, v) -> x.inHour(v, 2), v -> let[v]);
        bounds("inHour: what is 0 to 3", VILLAGE, 0, 3, INDEX, (x, v) -> x.inHour(7, v), v -> due[v]);
    }

    private static void letBuilding() {
        bounds("let: there is such a building, and it stands", VILLAGE, 0, 2, INDEX,
            (x, v) -> x.lease(x.let(v, 0, 0, 0, 1, 1), 0), v -> v);
        VILLAGE.refuses("let: behind the last one", INDEX, x -> x.let(4, 0, 0, 0, 1, 1));
    }

    private static void letTenantAndHours() {
        bounds("let: tenant is 0 to 15", VILLAGE, 0, 15, ARGUMENT,
            (x, v) -> x.lease(x.let(0, v, 0, 0, 1, 1), 1), v -> v);
        bounds("let: first is 0 to 11", VILLAGE, 0, 11, ARGUMENT,
            (x, v) -> x.lease(x.let(0, 0, v, 11, 1, 1), 2), v -> v);
        bounds("let: last is 0 to 11", VILLAGE, 0, 11, ARGUMENT,
            (x, v) -> x.lease(x.let(0, 0, 0, v, 1, 1), 3), v -> v);
        bounds("let: one hour alone", VILLAGE, 0, 11, ARGUMENT,
            (x, v) -> x.lease(x.let(0, 0, v, v, 1, 1), 3), v -> v);
        for (int hour = 1; hour < 12; hour++) {
            int first = hour;
            VILLAGE.refuses("let: first is greater than last", ARGUMENT, x -> x.let(0, 0, first, first - 1, 1, 1));
        }
        VILLAGE.refuses("let: first is far greater than last", ARGUMENT, x -> x.let(0, 0, 11, 0, 1, 1));
    }

    private static void letCellsAndPrice() {
        bounds("let: cells is 1 to 60", VILLAGE, 1, 60, ARGUMENT,
            (x, v) -> x.lease(x.let(0, 0, 0, 0, v, 1), 4), v -> v);
        bounds("let: price is 1 to 99", VILLAGE, 1, 99, ARGUMENT,
            (x, v) -> x.lease(x.let(0, 0, 0, 0, 1, v), 5), v -> v);
    }

    private static void letOrder() {
        for (int wrong : new int[] {-1, 3, 4}) {
            VILLAGE.refuses("let: building, then tenant", INDEX, x -> x.let(wrong, 16, 0, 0, 1, 1));
            VILLAGE.refuses("let: building, then first", INDEX, x -> x.let(wrong, 0, -1, 0, 1, 1));
            VILLAGE.refuses("let: building, then last", INDEX, x -> x.let(wrong, 0, 0, 12, 1, 1));
            VILLAGE.refuses("let: building, then both hours", INDEX, x -> x.let(wrong, 0, 1, 0, 1, 1));
            VILLAGE.refuses("let: building, then cells", INDEX, x -> x.let(wrong, 0, 0, 0, 61, 1));
            VILLAGE.refuses("let: building, then price", INDEX, x -> x.let(wrong, 0, 0, 0, 1, 0));
        }
        TOWN.refuses("let: building, then 40", INDEX, x -> x.let(12, 0, 0, 0, 1, 1));
        TOWN.refuses("let: building -1, then 40", INDEX, x -> x.let(-1, 0, 0, 0, 1, 1));
        TOWN.refuses("let: torn down, then 40", INDEX, x -> x.let(5, 0, 0, 0, 1, 1));
        TOWN.refuses("let: building, argument and 40", INDEX, x -> x.let(12, 16, 1, 0, 0, 0));
        TOWN.refuses("let: tenant, then 40", ARGUMENT, x -> x.let(0, -1, 0, 0, 1, 1));
        TOWN.refuses("let: first, then 40", ARGUMENT, x -> x.let(0, 0, 12, 12, 1, 1));
        TOWN.refuses("let: last, then 40", ARGUMENT, x -> x.let(0, 0, 0, 12, 1, 1));
        TOWN.refuses("let: both hours, then 40", ARGUMENT, x -> x.let(0, 0, 1, 0, 1, 1));
        TOWN.refuses("let: cells, then 40", ARGUMENT, x -> x.let(0, 0, 0, 0, 0, 1));
        TOWN.refuses("let: price, then 40", ARGUMENT, x -> x.let(0, 0, 0, 0, 1, 100));
    }

    private static void endBounds() {
        bounds("end: there is such a lease, and it stands", VILLAGE, 7, 8, INDEX, (x, v) -> x.end(v), v -> 8 - v);
        for (int good : new int[] {0, 1, 4}) {
            VILLAGE.answers("end: one that stands, " + good, 0, x -> x.end(good));
        }
        for (int bad : new int[] {-1, 2, 3, 5, 6, 9, 40}) {
            VILLAGE.refuses("end: none, or it has ended, " + bad, INDEX, x -> x.end(bad));
        }
        bounds("end: of 40", TOWN, 36, 39, INDEX, (x, v) -> x.end(v == 35 ? 9 : v), v -> 1);
    }

    private static void setPriceBounds() {
        bounds("setPrice: there is such a lease, and it stands", VILLAGE, 7, 8, INDEX,
            (x, v) -> x.setPrice(v, 50), v -> v == 7 ? 2 : 99);
        bounds("setPrice: price is 1 to 99", VILLAGE, 1, 99, ARGUMENT,
            (x, v) -> x.setPrice(1, v) * 100 + x.lease(1, 5), v -> 2000 + v);
        for (int bad : new int[] {-1, 2, 3, 5, 6, 9, 40}) {
            VILLAGE.refuses("setPrice: none, or it has ended, " + bad, INDEX, x -> x.setPrice(bad, 50));
        }
    }

    private static void setPriceOrder() {
        for (int price : new int[] {0, 100}) {
            VILLAGE.refuses("setPrice: no such lease, then price", INDEX, x -> x.setPrice(9, price));
            VILLAGE.refuses("setPrice: lease -1, then price", INDEX, x -> x.setPrice(-1, price));
            VILLAGE.refuses("setPrice: evicted, then price", INDEX, x -> x.setPrice(2, price));
            VILLAGE.refuses("setPrice: has ended, then price", INDEX, x -> x.setPrice(6, price));
        }
    }

    private static void leaseBounds() {
        int[] tenants = {1, 2, 3, 4, 15, 5, 6, 9, 4};
        int[] due = {0, 9, 5, 6, 60, 2, 1, 1, 16, 2};
        int[] evicted = {0, 3, 7, 7, 2, 10, 0, 2, 20, 0};
        bounds("lease: there is such a lease", VILLAGE, 0, 8, INDEX, (x, v) -> x.lease(v, 1), v -> tenants[v]);
        bounds("lease: what is 0 to 9", VILLAGE, 0, 9, INDEX, (x, v) -> x.lease(7, v), v -> due[v]);
        bounds("lease: what is 0 to 9, evicted", VILLAGE, 0, 9, INDEX, (x, v) -> x.lease(2, v), v -> evicted[v]);
        bounds("lease: of 40", TOWN, 0, 39, INDEX, (x, v) -> x.lease(v, 4), v -> 1 + v);
    }

    private static void getsBounds() {
        int[] cells = {2, 3, 0, 0, 5, 0, 0, 0, 0};
        bounds("gets: there is such a lease", VILLAGE, 0, 8, INDEX, (x, v) -> x.gets(v, 7), v -> cells[v]);
        bounds("gets: hour is 0 to 11", VILLAGE, 0, 11, INDEX, (x, v) -> x.gets(7, v), v -> v == 5 || v == 6 ? 4 : 0);
        bounds("gets: hour is 0 to 11, ended", VILLAGE, 0, 11, INDEX, (x, v) -> x.gets(6, v), v -> 0);
    }

    private static void cellOfBounds() {
        int[] first = {87, 70, -1, -1, 163, -1, -1, -1, -1};
        bounds("cellOf: there is such a lease", VILLAGE, 0, 8, INDEX, (x, v) -> x.cellOf(v, 7, 0), v -> first[v]);
        bounds("cellOf: hour is 0 to 11", VILLAGE, 0, 11, INDEX,
            (x, v) -> x.cellOf(7, v, 0), v -> v == 5 || v == 6 ? 36 : -1);
        bounds("cellOf: hour is 0 to 11, ended", VILLAGE, 0, 11, INDEX, (x, v) -> x.cellOf(6, v, 0), v -> -1);
    }

    private static void cellOfIndex() {
        int[] cells = {70, 71, 86};
        for (int index = 0; index < 3; index++) {
            int asked = index;
            VILLAGE.answers("cellOf: one that it gets", cells[index], x -> x.cellOf(1, 7, asked));
        }
        for (int index : new int[] {3, 4, 59, 60, 255, 256, MAX - 1, MAX}) {
            VILLAGE.answers("cellOf: it does not get so many, " + index, -1, x -> x.cellOf(1, 7, index));
        }
        for (int index : new int[] {-1, -2, MIN}) {
            VILLAGE.refuses("cellOf: index is less than 0", INDEX, x -> x.cellOf(1, 7, index));
            VILLAGE.refuses("cellOf: index is less than 0, not its hour", INDEX, x -> x.cellOf(1, 0, index));
            VILLAGE.refuses("cellOf: index is less than 0, ended", INDEX, x -> x.cellOf(6, 3, index));
        }
    }

    private static void passBounds() {
        bounds("pass: days is 1 to 30", VILLAGE, 1, 30, ARGUMENT,
            (x, v) -> x.pass(v) * 100 + x.count(0), v -> 102 + v + (v > 1 ? 100 : 0));
    }

    private static void passOrder() {
        for (int days : new int[] {0, 31, -1, MIN, MAX}) {
            END.refuses("pass: days, then the day 1000", ARGUMENT, x -> x.pass(days));
        }
        for (int days = 1; days <= 30; days++) {
            int asked = days;
            END.refuses("pass: the day would be greater than 1000", STATE, x -> x.pass(asked));
        }
    }

    private static void countGotAndPaid() {
        ShadowLeases asked = VILLAGE.make();
        int[] due = {2, 3, 5, 2, asked.got(0) + asked.got(1) + asked.got(3) + asked.got(7), 6 + 1 + 6};
        int[] got = new int[8];
        int[] paid = new int[16];
        int[] owners = {3, 0, 7, 1};
        for (int lease = 0; lease < 9; lease++) {
            got[owners[asked.lease(lease, 0)]] += asked.lease(lease, 8);
            paid[asked.lease(lease, 1)] += asked.lease(lease, 8);
        }
        bounds("count: what is 0 to 5", VILLAGE, 0, 5, INDEX, (x, v) -> x.count(v), v -> due[v]);
        bounds("got: owner is 0 to 7", VILLAGE, 0, 7, INDEX, (x, v) -> x.got(v), v -> got[v]);
        bounds("paid: tenant is 0 to 15", VILLAGE, 0, 15, INDEX, (x, v) -> x.paid(v), v -> paid[v]);
    }

    private static void adviseBounds() {
        int[] best = {0, 0, 0, 0, 0, 2, 2, 0, 0, 2, 2, 2};
        int[] most = {12, 12, 12, 12, 6, 4, 4, 4, 4, 4, 4, 4};
        bounds("advise: first is 0 to 11", VILLAGE, 0, 11, ARGUMENT, (x, v) -> x.advise(v, 11, 99, 0), v -> best[v]);
        bounds("advise: last is 0 to 11", VILLAGE, 0, 11, ARGUMENT, (x, v) -> x.advise(0, v, 99, 1), v -> most[v]);
        for (int hour = 1; hour < 12; hour++) {
            int first = hour;
            VILLAGE.refuses("advise: first is greater than last", ARGUMENT, x -> x.advise(first, first - 1, 1, 0));
        }
        VILLAGE.refuses("advise: first is far greater than last", ARGUMENT, x -> x.advise(11, 0, 1, 0));
        bounds("advise: price is 1 to 99", VILLAGE, 1, 99, ARGUMENT,
            (x, v) -> x.advise(7, 7, v, 1), v -> v == 1 ? 4 : 6);
        bounds("advise: what is 0 to 1", VILLAGE, 0, 1, INDEX, (x, v) -> x.advise(7, 7, 99, v), v -> v == 0 ? 0 : 6);
    }

    private static void adviseOrder() {
        for (int what : new int[] {-1, 2}) {
            VILLAGE.refuses("advise: first, then what", ARGUMENT, x -> x.advise(-1, 11, 1, what));
            VILLAGE.refuses("advise: last, then what", ARGUMENT, x -> x.advise(0, 12, 1, what));
            VILLAGE.refuses("advise: both hours, then what", ARGUMENT, x -> x.advise(1, 0, 1, what));
            VILLAGE.refuses("advise: price 0, then what", ARGUMENT, x -> x.advise(0, 11, 0, what));
            VILLAGE.refuses("advise: price 100, then what", ARGUMENT, x -> x.advise(0, 11, 100, what));
        }
    }

    private static void wouldGetBounds() {
        int[] byNine = {2 * 10 + 3 * 20 + 2 * 8 * 2, 4 * 5 * 99, 30};
        bounds("wouldGet: there is such a building, and it stands", VILLAGE, 0, 2, INDEX,
            (x, v) -> x.wouldGet(v, 9), v -> byNine[v]);
        VILLAGE.refuses("wouldGet: behind the last one", INDEX, x -> x.wouldGet(4, 5));
        int[] due = {0, 9, 22, 23, 29, 29, 30, 30, 30, 30};
        bounds("wouldGet: height is 1 to 9", VILLAGE, 1, 9, ARGUMENT, (x, v) -> x.wouldGet(2, v), v -> due[v]);
    }

    private static void wouldGetOrder() {
        for (int height : new int[] {0, 10}) {
            VILLAGE.refuses("wouldGet: no such building, then height", INDEX, x -> x.wouldGet(4, height));
            VILLAGE.refuses("wouldGet: building -1, then height", INDEX, x -> x.wouldGet(-1, height));
            VILLAGE.refuses("wouldGet: torn down, then height", INDEX, x -> x.wouldGet(3, height));
        }
    }

    private static void questionsChangeNothing() {
        VILLAGE.isLeftAlone("advise changes nothing", x -> x.advise(0, 11, 50, 1));
        VILLAGE.isLeftAlone("digest changes nothing", ShadowLeases::digest);
        VILLAGE.isLeftAlone("fulfilled changes nothing", ShadowLeases::fulfilled);
        VILLAGE.isLeftAlone("questions of an hour change nothing",
            x -> x.shade(7, 6, 4) + x.shades(7, 6, 4) + x.area(0, 7) + x.inHour(7, 1) + x.inHour(7, 3));
        VILLAGE.isLeftAlone("questions of leases change nothing",
            x -> x.lease(0, 9) + x.gets(0, 7) + x.cellOf(0, 7, 0) + x.cellOf(1, 8, 60));
        VILLAGE.isLeftAlone("questions of the registry change nothing",
            x -> x.building(0, 7) + x.count(4) + x.got(0) + x.paid(1));
        for (int height = 1; height <= 9; height++) {
            int asked = height;
            VILLAGE.isLeftAlone("wouldGet changes nothing", x -> x.wouldGet(0, asked) + x.wouldGet(2, asked));
        }
    }
}
