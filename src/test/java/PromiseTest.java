/** The promises of the document, one after the other, with answers worked out by hand. */
public final class PromiseTest {
    private static final int MIN = Integer.MIN_VALUE;
    private static final int MAX = Integer.MAX_VALUE;
    private static final Checks CHECKS = new Checks("PromiseTest");

    public static void main(String[] args) {
        promise1();
        promise2();
        promise2Refuses();
        promise2Corners();
        promise3();
        promise4();
        promise5();
        promise6();
        promise7();
        promise7Reach();
        promise8();
        promise8Ways();
        promise9();
        promise10();
        promise11();
        promise11Refuses();
        promise12();
        promise13();
        promise14();
        promise15();
        promise15Order();
        promise16();
        promise17();
        promise17Warnings();
        promise17Dusk();
        promise17Limits();
        promise18();
        promise19();
        promise20();
        promise21();
        promise21Price();
        promise22();
        promise23();
        promise24();
        firstAndLastHour();
        CHECKS.finish();
    }

    private static void is(String what, long got, long due) {
        CHECKS.is(what, got, due);
    }

    /** A tower of 2 * 3 cells, 4 high. */
    private static ShadowLeases tower() {
        ShadowLeases x = new ShadowLeases();
        x.build(4, 4, 2, 3, 4, 3);
        return x;
    }

    /** The tower with three leases in hour 7, where its shade is 70 71 86 87 102 103. */
    private static ShadowLeases letTower() {
        ShadowLeases x = tower();
        x.let(0, 1, 7, 7, 2, 10);
        x.let(0, 2, 7, 7, 3, 20);
        x.let(0, 3, 7, 7, 2, 10);
        return x;
    }

    private static void promise1() {
        ShadowLeases x = new ShadowLeases();
        for (int what = 0; what <= 5; what++) {
            is("new: count", x.count(what), 0);
        }
        int[] dx = {-1, -1, -1, -1, -1, 0, 0, 1, 1, 1, 1, 1};
        int[] dy = {0, 0, 0, 0, 0, -1, -1, 0, 0, 0, 0, 0};
        int[] length = {5, 4, 3, 2, 1, 1, 1, 1, 2, 3, 4, 5};
        long d = 487;
        for (int i = 0; i < 6; i++) {
            d *= 31;
        }
        for (int hour = 0; hour < 12; hour++) {
            d = ((d * 31 + dx[hour]) * 31 + dy[hour]) * 31 + length[hour];
            d = d * 31 * 31 * 31 * 31;
        }
        for (int i = 0; i < 8 + 16; i++) {
            d *= 31;
        }
        is("new: digest", x.digest(), d);
        CHECKS.is("new: fulfilled", x.fulfilled(), 1.0);
        is("new: advise", x.advise(0, 11, 1, 0), -1);
        CHECKS.refusesIndex(x, "new: no building", () -> x.building(0, 0));
        CHECKS.refusesIndex(x, "new: no lease", () -> x.lease(0, 0));
        is("new: shade", x.shade(0, 0, 0), -1);
    }

    private static void promise2() {
        ShadowLeases x = new ShadowLeases();
        is("build: the least", x.build(0, 0, 1, 1, 1, 0), 0);
        is("build: the most", x.build(10, 10, 6, 6, 9, 7), 1);
        is("build: beside", x.build(1, 0, 6, 1, 5, 2), 2);
        is("build: below", x.build(0, 1, 1, 6, 5, 2), 3);
        is("build: what it covers", x.shade(3, 6, 0), -2);
        is("build: what it covers", x.shade(3, 0, 6), -2);
        is("build: what it does not cover", x.shades(5, 7, 0), 0);
        is("build: cells covered", x.count(5), 1 + 36 + 6 + 6);
        x.tearDown(2);
        is("build: where one was torn down", x.build(2, 0, 1, 1, 1, 0), 4);
        is("build: the corner", x.build(15, 0, 1, 1, 9, 1), 5);
        is("build: the other corner", x.build(0, 15, 1, 1, 9, 1), 6);
    }

    private static void promise2Refuses() {
        ShadowLeases x = tower();
        int[] badSize = {0, 7, -1, MIN, MAX};
        for (int bad : badSize) {
            CHECKS.refusesArgument(x, "build: wide " + bad, () -> x.build(0, 0, bad, 1, 1, 0));
            CHECKS.refusesArgument(x, "build: deep " + bad, () -> x.build(0, 0, 1, bad, 1, 0));
        }
        int[] badPlace = {-1, 15, 16, MIN, MAX, MAX - 1};
        for (int bad : badPlace) {
            CHECKS.refusesArgument(x, "build: x " + bad, () -> x.build(bad, 0, 2, 2, 1, 0));
            CHECKS.refusesArgument(x, "build: y " + bad, () -> x.build(0, bad, 2, 2, 1, 0));
        }
        int[] badHeight = {0, 10, -1, MIN, MAX};
        for (int bad : badHeight) {
            CHECKS.refusesArgument(x, "build: height " + bad, () -> x.build(0, 0, 1, 1, bad, 0));
            CHECKS.refusesArgument(x, "build: height first", () -> x.build(4, 4, 1, 1, bad, 0));
        }
        int[] badOwner = {-1, 8, MIN, MAX};
        for (int bad : badOwner) {
            CHECKS.refusesArgument(x, "build: owner " + bad, () -> x.build(0, 0, 1, 1, 1, bad));
            CHECKS.refusesArgument(x, "build: owner first", () -> x.build(4, 4, 1, 1, 1, bad));
        }
        CHECKS.refusesState(x, "build: on it", () -> x.build(5, 6, 1, 1, 1, 0));
        CHECKS.refusesState(x, "build: over its corner", () -> x.build(0, 0, 5, 5, 1, 0));
        CHECKS.refusesState(x, "build: around it", () -> x.build(3, 3, 6, 6, 1, 0));
        CHECKS.refusesState(x, "build: across it", () -> x.build(3, 5, 6, 1, 1, 0));
        for (int number = 1; number < 12; number++) {
            is("build: number", x.build(number, 15, 1, 1, 1, 0), number);
        }
        x.tearDown(5);
        CHECKS.refusesState(x, "build: a 13th", () -> x.build(0, 0, 1, 1, 1, 0));
        CHECKS.refusesArgument(x, "build: a 13th that is wrong", () -> x.build(0, 0, 1, 1, 1, 8));
    }

    private static void promise2Corners() {
        ShadowLeases x = new ShadowLeases();
        is("build: cell 0", x.build(0, 0, 1, 1, 1, 0), 0);
        is("build: cell 255", x.build(15, 15, 1, 1, 1, 0), 1);
        CHECKS.refusesState(x, "build: over cell 0", () -> x.build(0, 0, 2, 2, 1, 0));
        CHECKS.refusesState(x, "build: over cell 255", () -> x.build(14, 14, 2, 2, 1, 0));
        is("build: cell 0 is covered", x.shade(0, 0, 0), -2);
        is("build: cell 255 is covered", x.shade(0, 15, 15), -2);
        is("build: in the middle", x.build(6, 6, 2, 2, 1, 0), 2);
        is("build: just above", x.build(6, 4, 2, 2, 1, 0), 3);
        is("build: just below", x.build(6, 8, 2, 2, 1, 0), 4);
        is("build: just left", x.build(4, 6, 2, 2, 1, 0), 5);
        is("build: just right", x.build(8, 6, 2, 2, 1, 0), 6);
        x.tearDown(0);
        is("build: cell 0 is free", x.shade(0, 0, 0), -1);
        is("build: cell 0 again", x.build(0, 0, 2, 2, 1, 0), 7);
    }

    private static void promise3() {
        ShadowLeases x = letTower();
        x.build(10, 4, 1, 1, 9, 0);
        x.let(1, 4, 0, 11, 60, 99);
        x.pass(1);
        x.end(1);
        is("tearDown: its leases that stand", x.tearDown(0), 2);
        is("tearDown: another's lease stands", x.lease(3, 6), 1);
        is("tearDown: its lease has ended", x.lease(0, 6), 0);
        is("tearDown: its lease has ended", x.lease(2, 6), 0);
        is("tearDown: warnings are kept", x.lease(2, 7), 1);
        is("tearDown: is no eviction", x.count(3), 0);
        is("tearDown: stands", x.building(0, 6), 0);
        is("tearDown: standing leases", x.building(0, 7), 0);
        is("tearDown: buildings", x.count(1), 1);
        is("tearDown: covers nothing", x.shade(7, 4, 4), -1);
        is("tearDown: casts nothing", x.shade(7, 6, 4), -1);
        is("tearDown: area", x.area(0, 7), 0);
        is("tearDown: one without leases", x.build(4, 4, 1, 1, 1, 0), 2);
        is("tearDown: one without leases", x.tearDown(2), 0);
        for (int bad : new int[] {0, 2, 3, -1, 12, MIN, MAX}) {
            CHECKS.refusesIndex(x, "tearDown: " + bad, () -> x.tearDown(bad));
        }
        is("tearDown: the next number", x.build(4, 4, 1, 1, 1, 0), 3);
    }

    private static void promise4() {
        ShadowLeases x = tower();
        is("raise: before", x.raise(0, 9), 4);
        is("raise: higher", x.building(0, 4), 9);
        is("raise: area", x.area(0, 7), 12);
        is("raise: before", x.raise(0, 1), 9);
        is("raise: area", x.area(0, 7), 0);
        is("raise: area", x.area(0, 8), 3);
        is("raise: to the same", x.raise(0, 1), 1);
        for (int bad : new int[] {0, 10, -1, MIN, MAX}) {
            CHECKS.refusesArgument(x, "raise: to " + bad, () -> x.raise(0, bad));
            CHECKS.refusesIndex(x, "raise: building first", () -> x.raise(1, bad));
        }
        for (int bad : new int[] {-1, 1, 12, MIN, MAX}) {
            CHECKS.refusesIndex(x, "raise: building " + bad, () -> x.raise(bad, 5));
        }
        x.tearDown(0);
        CHECKS.refusesIndex(x, "raise: one torn down", () -> x.raise(0, 5));
        CHECKS.refusesIndex(x, "raise: one torn down, to 0", () -> x.raise(0, 0));
    }

    private static void promise5() {
        ShadowLeases x = tower();
        int[] before = {5, 4, 3, 2, 1, 1, 1, 1, 2, 3, 4, 5};
        for (int hour = 0; hour < 12; hour++) {
            is("setSun: length before", x.setSun(hour, 0, 1, 6), before[hour]);
            is("setSun: length before", x.setSun(hour, 0, 1, hour % 7), 6);
        }
        is("setSun: the other way", x.shade(1, 4, 8), 0);
        is("setSun: reach", x.shade(1, 4, 9), -1);
        is("setSun: length 0", x.area(0, 0), 0);
        is("setSun: length 3", x.area(0, 10), 2 * 6);
        x.setSun(2, -1, -1, 1);
        is("setSun: aslant", x.shade(2, 3, 3), 0);
        is("setSun: aslant", x.shade(2, 2, 2), 0);
        is("setSun: aslant", x.shade(2, 3, 4), 0);
        is("setSun: aslant", x.shade(2, 5, 3), -1);
        is("setSun: another hour", x.shade(3, 3, 3), -1);
        for (int bad : new int[] {-1, 12, MIN, MAX}) {
            CHECKS.refusesIndex(x, "setSun: hour " + bad, () -> x.setSun(bad, 1, 0, 1));
            CHECKS.refusesIndex(x, "setSun: hour first", () -> x.setSun(bad, 0, 0, 7));
        }
        for (int bad : new int[] {-2, 2, MIN, MAX}) {
            CHECKS.refusesArgument(x, "setSun: dx " + bad, () -> x.setSun(0, bad, 1, 1));
            CHECKS.refusesArgument(x, "setSun: dy " + bad, () -> x.setSun(0, 1, bad, 1));
        }
        CHECKS.refusesArgument(x, "setSun: no direction", () -> x.setSun(0, 0, 0, 1));
        for (int bad : new int[] {-1, 7, MIN, MAX}) {
            CHECKS.refusesArgument(x, "setSun: length " + bad, () -> x.setSun(11, 1, 0, bad));
        }
    }

    private static void promise6() {
        ShadowLeases x = new ShadowLeases();
        x.build(3, 7, 2, 5, 6, 4);
        int[] due = {3, 7, 2, 5, 6, 4, 1, 0};
        for (int what = 0; what < 8; what++) {
            is("building: " + what, x.building(0, what), due[what]);
        }
        x.build(0, 0, 1, 1, 1, 1);
        x.let(0, 0, 0, 0, 1, 1);
        x.let(0, 0, 5, 9, 1, 1);
        x.let(1, 0, 0, 0, 1, 1);
        is("building: leases", x.building(0, 7), 2);
        x.end(0);
        is("building: leases", x.building(0, 7), 1);
        x.raise(0, 8);
        x.tearDown(0);
        int[] later = {3, 7, 2, 5, 8, 4, 0, 0};
        for (int what = 0; what < 8; what++) {
            is("building: torn down, " + what, x.building(0, what), later[what]);
        }
        for (int bad : new int[] {-1, 2, 12, MIN, MAX}) {
            CHECKS.refusesIndex(x, "building: " + bad, () -> x.building(bad, 0));
        }
        for (int bad : new int[] {-1, 8, MIN, MAX}) {
            CHECKS.refusesIndex(x, "building: what " + bad, () -> x.building(1, bad));
        }
    }

    private static void promise7() {
        ShadowLeases x = tower();
        is("shade: covered", x.shade(7, 4, 4), -2);
        is("shade: covered", x.shade(7, 5, 6), -2);
        is("shade: k 1", x.shade(7, 6, 4), 0);
        is("shade: k 2", x.shade(7, 7, 6), 0);
        is("shade: k 3", x.shade(7, 8, 4), -1);
        is("shade: above", x.shade(7, 6, 3), -1);
        is("shade: below", x.shade(7, 6, 7), -1);
        is("shade: towards the sun", x.shade(7, 3, 4), -1);
        is("shade: morning", x.shade(4, 2, 5), 0);
        is("shade: morning", x.shade(4, 1, 5), -1);
        is("shade: noon", x.shade(5, 4, 2), 0);
        is("shade: noon", x.shade(6, 5, 1), -1);
        is("shade: to the border", x.shade(11, 15, 5), 0);
        is("shade: not around the border", x.shade(11, 0, 6), -1);
        for (int bad : new int[] {-1, 12, MIN, MAX}) {
            CHECKS.refusesIndex(x, "shade: hour " + bad, () -> x.shade(bad, 0, 0));
            CHECKS.refusesIndex(x, "shades: hour " + bad, () -> x.shades(bad, 0, 0));
        }
        for (int bad : new int[] {-1, 16, MIN, MAX}) {
            CHECKS.refusesIndex(x, "shade: x " + bad, () -> x.shade(0, bad, 3));
            CHECKS.refusesIndex(x, "shade: y " + bad, () -> x.shade(0, 3, bad));
            CHECKS.refusesIndex(x, "shades: x " + bad, () -> x.shades(0, bad, 3));
            CHECKS.refusesIndex(x, "shades: y " + bad, () -> x.shades(0, 3, bad));
        }
    }

    private static void promise7Reach() {
        ShadowLeases x = new ShadowLeases();
        x.build(1, 0, 1, 1, 9, 0);
        x.build(4, 0, 1, 1, 3, 0);
        x.setSun(9, 1, 0, 1);
        is("shade: 9 / 2 is 4", x.shade(9, 5, 0), 1);
        is("shade: behind another", x.shade(9, 3, 0), 0);
        is("shade: 9 / 2 is 4", x.shade(9, 6, 0), -1);
        x.setSun(9, 1, 0, 2);
        is("shade: the nearer one", x.shade(9, 7, 0), 1);
        is("shade: the farther one reaches farther", x.shade(9, 8, 0), 0);
        is("shade: the farther one reaches farther", x.shade(9, 10, 0), 0);
        is("shade: beyond both", x.shade(9, 11, 0), -1);
        x.raise(1, 1);
        is("shade: 2 * 1 / 2 is 1", x.shade(9, 5, 0), 1);
        is("shade: over the low one", x.shade(9, 6, 0), 0);
        x.tearDown(0);
        is("shade: the far one is gone", x.shade(9, 6, 0), -1);
    }

    private static void promise8() {
        ShadowLeases x = new ShadowLeases();
        x.build(1, 0, 3, 1, 9, 0);
        x.build(5, 0, 2, 1, 9, 0);
        x.build(8, 0, 1, 1, 2, 0);
        x.setSun(9, 1, 0, 1);
        is("shades: one", x.shades(9, 4, 0), 1);
        is("shades: covered", x.shades(9, 5, 0), 0);
        is("shades: two", x.shades(9, 7, 0), 2);
        is("shades: covered", x.shades(9, 8, 0), 0);
        is("shades: two", x.shades(9, 9, 0), 2);
        is("shades: one", x.shades(9, 10, 0), 1);
        is("shades: none", x.shades(9, 11, 0), 0);
        x.setSun(9, 1, 0, 6);
        is("shades: three", x.shades(9, 9, 0), 3);
        is("shades: three", x.shades(9, 14, 0), 3);
        is("shades: two", x.shades(9, 15, 0), 2);
        is("shades: beside", x.shades(9, 9, 1), 0);
        x.tearDown(1);
        is("shades: one is gone", x.shades(9, 15, 0), 1);
        is("shades: one is gone", x.shades(9, 5, 0), 1);
    }

    /** A building's own shade never overlaps itself, whatever way it falls. */
    private static void promise8Ways() {
        for (int dx = -1; dx <= 1; dx++) {
            for (int dy = -1; dy <= 1; dy++) {
                if (dx != 0 || dy != 0) {
                    ShadowLeases x = new ShadowLeases();
                    x.build(6, 6, 2, 2, 4, 0);
                    x.setSun(3, dx, dy, 2);
                    String told = "shades: towards " + dx + ", " + dy;
                    is(told, x.area(0, 3), dx == 0 || dy == 0 ? 2 * 4 : 3 * 4);
                    is(told, x.inHour(3, 1), 0);
                    is(told, x.shades(3, dx < 0 ? 5 : dx == 0 ? 6 : 8, dy < 0 ? 5 : dy == 0 ? 6 : 8), 1);
                }
            }
        }
    }

    private static void promise9() {
        ShadowLeases x = tower();
        int[] due = {12, 12, 12, 12, 6, 4, 4, 6, 12, 18, 24, 30};
        for (int hour = 0; hour < 12; hour++) {
            is("area: hour " + hour, x.area(0, hour), due[hour]);
        }
        x.build(7, 0, 1, 4, 1, 0);
        x.build(8, 5, 1, 1, 9, 0);
        is("area: less by what is covered", x.area(0, 11), 30 - 1 - 7);
        is("area: of the nearer one", x.area(2, 11), 7);
        is("area: of a low one", x.area(1, 11), 8);
        for (int bad : new int[] {-1, 3, 12, MIN, MAX}) {
            CHECKS.refusesIndex(x, "area: building " + bad, () -> x.area(bad, 0));
        }
        for (int bad : new int[] {-1, 12, MIN, MAX}) {
            CHECKS.refusesIndex(x, "area: hour " + bad, () -> x.area(0, bad));
        }
        x.tearDown(2);
        is("area: torn down", x.area(2, 11), 0);
        is("area: as before", x.area(0, 11), 30);
    }

    private static void promise10() {
        ShadowLeases x = letTower();
        x.build(7, 5, 1, 1, 4, 0);
        is("inHour: in some shade", x.inHour(7, 0), 5 + 2);
        is("inHour: in one shade", x.inHour(7, 1), 0);
        is("inHour: what leases get", x.inHour(7, 2), 5);
        is("inHour: short", x.inHour(7, 3), 1);
        is("inHour: in two shades", x.inHour(8, 1), 2);
        is("inHour: in some shade", x.inHour(8, 0), 4 + 1 + 4 + 4);
        is("inHour: no lease", x.inHour(8, 2), 0);
        is("inHour: no lease", x.inHour(8, 3), 0);
        x.setPrice(0, 5);
        x.let(0, 0, 7, 8, 4, 99);
        is("inHour: short", x.inHour(7, 3), 3);
        is("inHour: not short", x.inHour(8, 3), 0);
        x.let(1, 0, 7, 7, 3, 1);
        is("inHour: short of another's", x.inHour(7, 3), 4);
        is("inHour: all is let", x.inHour(7, 2), 7);
        x.tearDown(0);
        is("inHour: without the tower", x.inHour(7, 3), 1);
        is("inHour: without the tower", x.inHour(7, 0), 2);
        for (int bad : new int[] {-1, 12, MIN, MAX}) {
            CHECKS.refusesIndex(x, "inHour: hour " + bad, () -> x.inHour(bad, 0));
        }
        for (int bad : new int[] {-1, 4, MIN, MAX}) {
            CHECKS.refusesIndex(x, "inHour: what " + bad, () -> x.inHour(0, bad));
        }
    }

    private static void promise11() {
        ShadowLeases x = tower();
        is("let: the least", x.let(0, 0, 0, 0, 1, 1), 0);
        is("let: the most", x.let(0, 15, 11, 11, 60, 99), 1);
        is("let: all hours", x.let(0, 7, 0, 11, 5, 50), 2);
        int[] due = {0, 7, 0, 11, 5, 50, 1, 0, 0};
        for (int what = 0; what < due.length; what++) {
            is("let: tells " + what, x.lease(2, what), due[what]);
        }
        x.end(0);
        for (int number = 3; number < 40; number++) {
            is("let: number", x.let(0, 1, 2, 3, 4, 5), number);
        }
        CHECKS.refusesState(x, "let: a 41st", () -> x.let(0, 1, 2, 3, 4, 5));
        CHECKS.refusesArgument(x, "let: a 41st that is wrong", () -> x.let(0, 1, 2, 3, 4, 0));
        CHECKS.refusesIndex(x, "let: a 41st of no building", () -> x.let(1, 1, 2, 3, 4, 0));
    }

    private static void promise11Refuses() {
        ShadowLeases x = tower();
        x.build(0, 0, 1, 1, 1, 1);
        x.tearDown(1);
        for (int bad : new int[] {-1, 1, 2, 12, MIN, MAX}) {
            CHECKS.refusesIndex(x, "let: building " + bad, () -> x.let(bad, 0, 0, 0, 1, 1));
            CHECKS.refusesIndex(x, "let: building first", () -> x.let(bad, 16, 1, 0, 0, 0));
        }
        for (int bad : new int[] {-1, 16, MIN, MAX}) {
            CHECKS.refusesArgument(x, "let: tenant " + bad, () -> x.let(0, bad, 0, 0, 1, 1));
        }
        for (int bad : new int[] {-1, 12, MIN, MAX}) {
            CHECKS.refusesArgument(x, "let: first " + bad, () -> x.let(0, 0, bad, 11, 1, 1));
            CHECKS.refusesArgument(x, "let: last " + bad, () -> x.let(0, 0, 0, bad, 1, 1));
            CHECKS.refusesArgument(x, "let: both " + bad, () -> x.let(0, 0, bad, bad, 1, 1));
        }
        CHECKS.refusesArgument(x, "let: first behind last", () -> x.let(0, 0, 6, 5, 1, 1));
        for (int bad : new int[] {0, 61, -1, MIN, MAX}) {
            CHECKS.refusesArgument(x, "let: cells " + bad, () -> x.let(0, 0, 0, 0, bad, 1));
        }
        for (int bad : new int[] {0, 100, -1, MIN, MAX}) {
            CHECKS.refusesArgument(x, "let: price " + bad, () -> x.let(0, 0, 0, 0, 1, bad));
        }
    }

    private static void promise12() {
        ShadowLeases x = letTower();
        is("end: no warnings", x.end(1), 0);
        is("end: has ended", x.lease(1, 6), 0);
        is("end: its cells are free", x.cellOf(0, 7, 0), 70);
        is("end: the others stand", x.count(2), 2);
        x.let(0, 5, 7, 7, 5, 1);
        x.pass(1);
        is("end: a warning", x.end(3), 1);
        is("end: keeps it", x.lease(3, 7), 1);
        is("end: no eviction", x.count(3), 0);
        is("end: no building ends", x.building(0, 6), 1);
        for (int bad : new int[] {1, 3, 4, -1, 40, MIN, MAX}) {
            CHECKS.refusesIndex(x, "end: " + bad, () -> x.end(bad));
        }
    }

    private static void promise13() {
        ShadowLeases x = letTower();
        is("setPrice: before", x.setPrice(2, 99), 10);
        is("setPrice: after", x.lease(2, 5), 99);
        is("setPrice: goes first", x.cellOf(2, 7, 0), 70);
        is("setPrice: goes behind", x.cellOf(1, 7, 0), 86);
        is("setPrice: before", x.setPrice(2, 1), 99);
        is("setPrice: goes last", x.cellOf(2, 7, 0), 103);
        x.pass(1);
        is("setPrice: what it paid", x.lease(2, 8), 1);
        x.end(1);
        for (int bad : new int[] {1, 3, -1, 40, MIN, MAX}) {
            CHECKS.refusesIndex(x, "setPrice: lease " + bad, () -> x.setPrice(bad, 5));
            CHECKS.refusesIndex(x, "setPrice: lease first", () -> x.setPrice(bad, 0));
        }
        for (int bad : new int[] {0, 100, -1, MIN, MAX}) {
            CHECKS.refusesArgument(x, "setPrice: price " + bad, () -> x.setPrice(0, bad));
        }
    }

    private static void promise14() {
        ShadowLeases x = tower();
        x.build(0, 15, 1, 1, 1, 0);
        x.let(1, 0, 0, 0, 1, 1);
        x.let(0, 9, 4, 8, 7, 30);
        int[] due = {0, 9, 4, 8, 7, 30, 1, 0, 0, 4};
        for (int what = 0; what < 10; what++) {
            is("lease: " + what, x.lease(1, what), due[what]);
        }
        x.pass(1);
        is("lease: warnings", x.lease(1, 7), 1);
        is("lease: paid", x.lease(1, 8), 30 * (6 + 4 + 4 + 6 + 7));
        x.setSun(4, 1, 0, 2);
        is("lease: short as all is now", x.lease(1, 9), 3);
        x.end(1);
        int[] later = {0, 9, 4, 8, 7, 30, 0, 1, 810, 0};
        for (int what = 0; what < 10; what++) {
            is("lease: ended, " + what, x.lease(1, what), later[what]);
        }
        for (int bad : new int[] {-1, 2, 40, MIN, MAX}) {
            CHECKS.refusesIndex(x, "lease: " + bad, () -> x.lease(bad, 0));
        }
        for (int bad : new int[] {-1, 10, MIN, MAX}) {
            CHECKS.refusesIndex(x, "lease: what " + bad, () -> x.lease(0, bad));
        }
    }

    private static void promise15() {
        ShadowLeases x = letTower();
        is("gets: all it has", x.gets(1, 7), 3);
        is("gets: all it has", x.gets(0, 7), 2);
        is("gets: what is left", x.gets(2, 7), 1);
        is("gets: not its hour", x.gets(1, 6), 0);
        is("gets: not its hour", x.gets(1, 8), 0);
        x.raise(0, 9);
        is("gets: as all is now", x.gets(2, 7), 2);
        x.raise(0, 1);
        is("gets: no shade", x.gets(1, 7), 0);
        x.raise(0, 2);
        is("gets: the dearest", x.gets(1, 7), 3);
        is("gets: nothing is left", x.gets(0, 7), 0);
        x.end(1);
        is("gets: has ended", x.gets(1, 7), 0);
        is("gets: the next one", x.gets(0, 7), 2);
        for (int bad : new int[] {-1, 3, 40, MIN, MAX}) {
            CHECKS.refusesIndex(x, "gets: lease " + bad, () -> x.gets(bad, 0));
        }
        for (int bad : new int[] {-1, 12, MIN, MAX}) {
            CHECKS.refusesIndex(x, "gets: hour " + bad, () -> x.gets(0, bad));
            CHECKS.refusesIndex(x, "gets: hour of one that has ended", () -> x.gets(1, bad));
        }
    }

    private static void promise15Order() {
        ShadowLeases x = tower();
        x.build(10, 10, 2, 2, 4, 0);
        x.let(0, 0, 6, 8, 4, 7);
        x.let(0, 0, 7, 9, 4, 7);
        x.let(1, 0, 7, 7, 4, 99);
        x.let(0, 0, 8, 8, 60, 8);
        is("gets: of the same price the first", x.gets(0, 7), 4);
        is("gets: of the same price the second", x.gets(1, 7), 2);
        is("gets: of another building", x.gets(2, 7), 4);
        is("gets: alone in its hour", x.gets(0, 6), 4);
        is("gets: alone in its hour", x.gets(1, 9), 4);
        is("gets: all are taken by a dearer one", x.gets(3, 8), 12);
        is("gets: all are taken by a dearer one", x.gets(0, 8), 0);
        is("gets: all are taken by a dearer one", x.gets(1, 8), 0);
    }

    private static void promise16() {
        ShadowLeases x = letTower();
        int[] dearest = {70, 71, 86, -1};
        int[] first = {87, 102, -1, -1};
        int[] second = {103, -1, -1, -1};
        for (int i = 0; i < 4; i++) {
            is("cellOf: dearest", x.cellOf(1, 7, i), dearest[i]);
            is("cellOf: first", x.cellOf(0, 7, i), first[i]);
            is("cellOf: second", x.cellOf(2, 7, i), second[i]);
        }
        is("cellOf: far beyond", x.cellOf(1, 7, MAX), -1);
        is("cellOf: not its hour", x.cellOf(1, 6, 0), -1);
        x.build(7, 4, 1, 1, 1, 0);
        is("cellOf: round what is covered", x.cellOf(1, 7, 1), 86);
        is("cellOf: nothing is left", x.cellOf(2, 7, 0), -1);
        x.end(1);
        is("cellOf: has ended", x.cellOf(1, 7, 0), -1);
        for (int bad : new int[] {-1, 3, 40, MIN, MAX}) {
            CHECKS.refusesIndex(x, "cellOf: lease " + bad, () -> x.cellOf(bad, 0, 0));
        }
        for (int bad : new int[] {-1, 12, MIN, MAX}) {
            CHECKS.refusesIndex(x, "cellOf: hour " + bad, () -> x.cellOf(0, bad, 0));
        }
        for (int bad : new int[] {-1, MIN}) {
            CHECKS.refusesIndex(x, "cellOf: index " + bad, () -> x.cellOf(0, 7, bad));
            CHECKS.refusesIndex(x, "cellOf: index, ended", () -> x.cellOf(1, 0, bad));
        }
    }

    private static void promise17() {
        ShadowLeases x = letTower();
        is("pass: no eviction", x.pass(1), 0);
        is("pass: the day", x.count(0), 1);
        is("pass: a warning", x.lease(2, 7), 1);
        is("pass: no warning", x.lease(0, 7), 0);
        is("pass: paid", x.lease(1, 8), 60);
        is("pass: paid", x.lease(0, 8), 20);
        is("pass: paid", x.lease(2, 8), 10);
        is("pass: got", x.got(3), 90);
        is("pass: an eviction", x.pass(1), 1);
        is("pass: it paid that day, too", x.lease(2, 8), 20);
        is("pass: evicted", x.lease(2, 6), 0);
        is("pass: evicted", x.count(3), 1);
        is("pass: its warnings", x.lease(2, 7), 2);
        is("pass: many days", x.pass(28), 0);
        is("pass: the day", x.count(0), 30);
        is("pass: paid no more", x.lease(2, 8), 20);
        is("pass: paid on", x.lease(1, 8), 30 * 60);

        ShadowLeases y = letTower();
        is("pass: evicted on the way", y.pass(30), 1);
        is("pass: paid until then", y.lease(2, 8), 20);
        is("pass: got", y.got(3), 30 * 80 + 20);
        is("pass: the same in one", y.digest(), x.digest());
    }

    private static void promise17Warnings() {
        ShadowLeases x = tower();
        x.let(0, 0, 4, 7, 5, 1);
        x.raise(0, 4);
        is("pass: short in half", x.lease(0, 9), 2);
        x.pass(1);
        is("pass: half is not more than half", x.lease(0, 7), 0);
        x.end(0);
        x.let(0, 0, 5, 7, 5, 1);
        x.pass(1);
        is("pass: two of three", x.lease(1, 7), 1);
        x.raise(0, 9);
        x.pass(1);
        is("pass: warnings are 0 again", x.lease(1, 7), 0);
        x.raise(0, 4);
        is("pass: the first again", x.pass(1), 0);
        is("pass: the first again", x.lease(1, 7), 1);
        is("pass: and the second", x.pass(1), 1);
        x.raise(0, 9);
        is("pass: no second eviction", x.pass(1), 0);
        is("pass: warnings of the evicted stay", x.lease(1, 7), 2);
    }

    private static void promise17Dusk() {
        ShadowLeases x = tower();
        x.let(0, 0, 5, 7, 5, 50);
        x.let(0, 1, 7, 7, 2, 10);
        x.let(0, 2, 7, 7, 1, 5);
        is("pass: all of one dusk", x.pass(2), 3);
        x.let(0, 0, 5, 7, 5, 50);
        x.let(0, 1, 7, 7, 2, 10);
        x.pass(1);
        x.let(0, 2, 7, 7, 1, 5);
        is("pass: two of one dusk", x.pass(1), 2);
        is("pass: the late one stays", x.lease(5, 6), 1);
        is("pass: the late one is warned", x.lease(5, 7), 1);
        is("pass: it gets what is free", x.pass(1), 0);
        is("pass: and is warned no more", x.lease(5, 7), 0);
        is("pass: evicted", x.count(3), 5);
    }

    private static void promise17Limits() {
        ShadowLeases x = tower();
        for (int bad : new int[] {0, 31, -1, MIN, MAX}) {
            CHECKS.refusesArgument(x, "pass: " + bad, () -> x.pass(bad));
        }
        x.let(0, 0, 7, 7, 6, 99);
        for (int i = 0; i < 33; i++) {
            is("pass: 30", x.pass(30), 0);
        }
        CHECKS.refusesState(x, "pass: beyond 1000", () -> x.pass(11));
        CHECKS.refusesState(x, "pass: beyond 1000", () -> x.pass(30));
        is("pass: to 1000", x.pass(10), 0);
        is("pass: the last day", x.count(0), 1000);
        CHECKS.refusesState(x, "pass: one more", () -> x.pass(1));
        CHECKS.refusesArgument(x, "pass: none, at the end", () -> x.pass(0));
        CHECKS.refusesArgument(x, "pass: too many, at the end", () -> x.pass(31));
        is("pass: all paid", x.count(4), 1000 * 6 * 99);
    }

    private static void promise18() {
        ShadowLeases x = letTower();
        x.build(0, 0, 3, 2, 9, 5);
        x.let(1, 15, 4, 4, 10, 2);
        x.pass(2);
        int[] due = {2, 2, 2, 2, 2 * (60 + 20 + 10), 12};
        for (int what = 0; what < 6; what++) {
            is("count: " + what, x.count(what), due[what]);
        }
        x.tearDown(0);
        int[] later = {2, 1, 0, 2, 180, 6};
        for (int what = 0; what < 6; what++) {
            is("count: later, " + what, x.count(what), later[what]);
        }
        for (int bad : new int[] {-1, 6, MIN, MAX}) {
            CHECKS.refusesIndex(x, "count: " + bad, () -> x.count(bad));
        }
    }

    /** Two towers of the owner 7 and one of the owner 0, each let alone in its hour. */
    private static ShadowLeases owners() {
        ShadowLeases x = tower();
        x.build(0, 10, 1, 1, 4, 7);
        x.build(0, 12, 1, 1, 4, 7);
        x.build(0, 14, 1, 1, 4, 0);
        x.let(1, 15, 7, 7, 2, 1);
        x.let(2, 0, 7, 8, 2, 10);
        x.let(3, 15, 7, 7, 1, 7);
        return x;
    }

    private static void promise19() {
        ShadowLeases x = owners();
        is("got: nothing yet", x.got(7), 0);
        x.pass(3);
        int[] due = {21, 0, 0, 0, 0, 0, 0, 3 * (2 + 40)};
        for (int owner = 0; owner < 8; owner++) {
            is("got: " + owner, x.got(owner), due[owner]);
        }
        x.tearDown(1);
        is("got: keeps it", x.got(7), 126);
        for (int bad : new int[] {-1, 8, MIN, MAX}) {
            CHECKS.refusesIndex(x, "got: " + bad, () -> x.got(bad));
        }
    }

    private static void promise20() {
        ShadowLeases x = owners();
        is("paid: nothing yet", x.paid(15), 0);
        x.pass(3);
        for (int tenant = 1; tenant < 15; tenant++) {
            is("paid: " + tenant, x.paid(tenant), 0);
        }
        is("paid: 0", x.paid(0), 120);
        is("paid: 15", x.paid(15), 3 * (2 + 7));
        x.end(0);
        x.tearDown(3);
        is("paid: keeps it", x.paid(15), 27);
        for (int bad : new int[] {-1, 16, MIN, MAX}) {
            CHECKS.refusesIndex(x, "paid: " + bad, () -> x.paid(bad));
        }
    }

    private static void promise21() {
        ShadowLeases x = tower();
        is("advise: the only one", x.advise(7, 11, 1, 0), 0);
        is("advise: its worst hour", x.advise(7, 11, 1, 1), 6);
        is("advise: its worst hour", x.advise(8, 11, 1, 1), 12);
        is("advise: its worst hour", x.advise(0, 11, 1, 1), 4);
        x.build(4, 10, 2, 3, 4, 0);
        is("advise: the smallest number", x.advise(7, 7, 1, 0), 0);
        x.raise(1, 6);
        is("advise: the most", x.advise(7, 7, 1, 0), 1);
        is("advise: the most", x.advise(7, 7, 1, 1), 9);
        x.tearDown(1);
        is("advise: one that stands", x.advise(7, 7, 1, 0), 0);
        x.raise(0, 1);
        is("advise: no shade", x.advise(7, 7, 1, 0), 0);
        is("advise: no shade", x.advise(7, 7, 1, 1), 0);
        x.raise(0, 9);
        x.build(4, 8, 6, 6, 9, 0);
        is("advise: more than a lease has", x.advise(0, 0, 99, 1), 12 + 12);
        x.tearDown(2);
        x.build(0, 8, 6, 6, 9, 0);
        is("advise: more than a lease has", x.advise(11, 11, 99, 1), 60);
        x.setSun(11, 1, 1, 6);
        is("advise: aslant", x.advise(11, 11, 99, 0), 0);
        for (int bad : new int[] {-1, 12, MIN, MAX}) {
            CHECKS.refusesArgument(x, "advise: first " + bad, () -> x.advise(bad, 11, 1, 0));
            CHECKS.refusesArgument(x, "advise: last " + bad, () -> x.advise(0, bad, 1, 0));
            CHECKS.refusesArgument(x, "advise: both " + bad, () -> x.advise(bad, bad, 1, 2));
        }
        CHECKS.refusesArgument(x, "advise: first behind last", () -> x.advise(3, 2, 1, 0));
        for (int bad : new int[] {0, 100, -1, MIN, MAX}) {
            CHECKS.refusesArgument(x, "advise: price " + bad, () -> x.advise(0, 11, bad, 0));
            CHECKS.refusesArgument(x, "advise: price first", () -> x.advise(0, 11, bad, -1));
        }
        for (int bad : new int[] {-1, 2, MIN, MAX}) {
            CHECKS.refusesIndex(x, "advise: what " + bad, () -> x.advise(0, 11, 1, bad));
        }
        ShadowLeases none = new ShadowLeases();
        CHECKS.refusesIndex(none, "advise: what, no building", () -> none.advise(0, 0, 1, 2));
        is("advise: no building", none.advise(0, 0, 1, 1), -1);
        none.build(0, 0, 1, 1, 1, 1);
        none.tearDown(0);
        is("advise: none stands", none.advise(0, 0, 1, 0), -1);
        is("advise: none stands", none.advise(0, 0, 1, 1), -1);
    }

    private static void promise21Price() {
        ShadowLeases x = letTower();
        is("advise: behind the dearer", x.advise(7, 7, 19, 1), 3);
        is("advise: behind the same price", x.advise(7, 7, 20, 1), 3);
        is("advise: ahead of all", x.advise(7, 7, 21, 1), 6);
        is("advise: behind all", x.advise(7, 7, 10, 1), 0);
        is("advise: ahead of the cheap", x.advise(7, 7, 11, 1), 3);
        is("advise: another hour", x.advise(8, 8, 1, 1), 12);
        is("advise: the hour that has the fewest", x.advise(6, 8, 15, 1), 3);
        x.build(4, 10, 2, 2, 4, 0);
        is("advise: the freer one", x.advise(7, 7, 15, 0), 1);
        is("advise: the freer one", x.advise(7, 7, 15, 1), 4);
        is("advise: at a higher price", x.advise(7, 7, 30, 0), 0);
        x.end(1);
        is("advise: one has ended", x.advise(7, 7, 15, 0), 0);
        is("advise: one has ended", x.advise(7, 7, 15, 1), 6);
    }

    private static void promise22() {
        ShadowLeases x = letTower();
        long before = x.digest();
        is("wouldGet: as it is", x.wouldGet(0, 4), 90);
        is("wouldGet: higher", x.wouldGet(0, 9), 100);
        is("wouldGet: lower", x.wouldGet(0, 2), 60);
        is("wouldGet: nothing", x.wouldGet(0, 1), 0);
        is("wouldGet: changes nothing", x.digest(), before);
        is("wouldGet: changes nothing", x.gets(2, 7), 1);
        x.build(7, 4, 1, 1, 4, 3);
        x.let(1, 0, 7, 7, 2, 50);
        is("wouldGet: all their buildings", x.wouldGet(0, 4), 100 + 60 + 20);
        is("wouldGet: all their buildings", x.wouldGet(1, 1), 60 + 20);
        x.build(8, 5, 1, 1, 9, 1);
        x.let(2, 4, 8, 8, 9, 5);
        is("wouldGet: another's", x.wouldGet(2, 9), 7 * 5);
        is("wouldGet: what falls to another", x.wouldGet(1, 9), 100 + 60 + 20);
        x.let(0, 4, 8, 8, 60, 1);
        x.setSun(8, 1, 0, 1);
        is("wouldGet: two hours", x.wouldGet(0, 9), 100 + 60 + 20 + 20 + (1 + 2 + 4));
        x.tearDown(2);
        for (int bad : new int[] {-1, 2, 3, 12, MIN, MAX}) {
            CHECKS.refusesIndex(x, "wouldGet: building " + bad, () -> x.wouldGet(bad, 5));
            CHECKS.refusesIndex(x, "wouldGet: building first", () -> x.wouldGet(bad, 0));
        }
        for (int bad : new int[] {0, 10, -1, MIN, MAX}) {
            CHECKS.refusesArgument(x, "wouldGet: height " + bad, () -> x.wouldGet(0, bad));
        }
    }

    private static void promise23() {
        ShadowLeases x = tower();
        CHECKS.is("fulfilled: no lease", x.fulfilled(), 1.0);
        x.let(0, 0, 7, 7, 6, 1);
        CHECKS.is("fulfilled: all", x.fulfilled(), 1.0);
        x.let(0, 0, 5, 8, 8, 2);
        CHECKS.is("fulfilled: part", x.fulfilled(), 22.0 / 38.0);
        x.end(0);
        CHECKS.is("fulfilled: one has ended", x.fulfilled(), 22.0 / 32.0);
        x.raise(0, 1);
        CHECKS.is("fulfilled: little", x.fulfilled(), 3.0 / 32.0);
        x.setSun(8, 1, 0, 0);
        CHECKS.is("fulfilled: nothing", x.fulfilled(), 0.0);
        x.tearDown(0);
        CHECKS.is("fulfilled: none stands", x.fulfilled(), 1.0);
    }

    private static void promise24() {
        ShadowLeases x = owners();
        x.let(0, 4, 5, 6, 9, 33);
        x.pass(2);
        x.setSun(3, 1, -1, 6);
        x.tearDown(2);
        int[] dx = {-1, -1, -1, 1, -1, 0, 0, 1, 1, 1, 1, 1};
        int[] dy = {0, 0, 0, -1, 0, -1, -1, 0, 0, 0, 0, 0};
        int[] length = {5, 4, 3, 6, 1, 1, 1, 1, 2, 3, 4, 5};
        long d = 487;
        for (int what = 0; what < 6; what++) {
            d = d * 31 + x.count(what);
        }
        for (int hour = 0; hour < 12; hour++) {
            d = ((d * 31 + dx[hour]) * 31 + dy[hour]) * 31 + length[hour];
            for (int what = 0; what < 4; what++) {
                d = d * 31 + x.inHour(hour, what);
            }
        }
        for (int number = 0; number < 4; number++) {
            for (int what = 0; what < 8; what++) {
                d = d * 31 + x.building(number, what);
            }
            for (int hour = 0; hour < 12; hour++) {
                d = d * 31 + x.area(number, hour);
            }
        }
        for (int number = 0; number < 4; number++) {
            for (int what = 0; what < 10; what++) {
                d = d * 31 + x.lease(number, what);
            }
        }
        for (int owner = 0; owner < 8; owner++) {
            d = d * 31 + x.got(owner);
        }
        for (int tenant = 0; tenant < 16; tenant++) {
            d = d * 31 + x.paid(tenant);
        }
        is("digest: all numbers in their order", x.digest(), d);
        is("digest: the same again", x.digest(), d);
    }

    /** The first and the last hour, and the first cell, count like all others. */
    private static void firstAndLastHour() {
        ShadowLeases x = new ShadowLeases();
        x.build(1, 0, 1, 1, 4, 2);
        x.build(3, 0, 1, 1, 4, 2);
        x.let(0, 6, 0, 0, 2, 10);
        x.let(1, 7, 11, 11, 60, 1);
        is("hour 0: cell 0", x.cellOf(0, 0, 0), 0);
        is("hour 0: cell 0", x.cellOf(0, 0, 1), -1);
        is("hour 0: area", x.area(0, 0), 1);
        is("hour 0: overlapped", x.inHour(0, 1), 1);
        is("hour 0: short", x.lease(0, 9), 1);
        is("hour 11: short", x.lease(1, 9), 1);
        is("hour 0: would get", x.wouldGet(0, 4), 10 + 10);
        CHECKS.is("hour 0: fulfilled", x.fulfilled(), 11.0 / 62.0);
        x.pass(1);
        is("hour 0: paid", x.paid(6), 10);
        is("hour 11: paid", x.paid(7), 10);
        is("hour 0: warned", x.lease(0, 7), 1);
        is("hour 11: warned", x.lease(1, 7), 1);
        x.end(0);
        is("hour 0: nothing is let", x.inHour(0, 2), 0);
        x.setPrice(1, 2);
        x.tearDown(1);
        is("hour 0: nothing overlaps", x.inHour(0, 1), 0);
        is("hour 11: the lease has ended", x.inHour(11, 2), 0);
    }
}
