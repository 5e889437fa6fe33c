/** What each call answers where there is nothing yet, or nothing any more: no building, no lease, none that stands. */
public final class NothingYetTest {
    private static final Class<IndexOutOfBoundsException> INDEX = IndexOutOfBoundsException.class;
    private static final long NEW_DIGEST = 2118189814951213097L;
    private static final Checks CHECKS = new Checks("NothingYetTest");
    private static final Scene EMPTY = new Scene(CHECKS, "a new registry", x -> { });
    private static final Scene UNLET = new Scene(CHECKS, "a registry without leases", NothingYetTest::unlet);
    private static final Scene ENDED = new Scene(CHECKS, "a registry whose leases have ended", NothingYetTest::ended);
    private static final Scene TORN = new Scene(CHECKS, "a registry that is torn down", NothingYetTest::torn);

    public static void main(String[] args) {
        newSquare();
        newFigures();
        noBuilding();
        noLease();
        noLeaseOfBuildings();
        noLeaseStands();
        noBuildingStands();
        daysWithoutLeases();
        startsAnew();
        CHECKS.finish();
    }

    private static void unlet(ShadowLeases x) {
        x.build(3, 3, 2, 2, 6, 4);
        x.build(9, 9, 1, 3, 9, 4);
    }

    /** The lease 0 ends by end, 1 is evicted, and 2 ends with its building. */
    private static void ended(ShadowLeases x) {
        unlet(x);
        x.let(0, 1, 0, 11, 2, 3);
        x.let(1, 2, 7, 7, 60, 4);
        x.let(1, 3, 9, 9, 1, 5);
        x.pass(2);
        x.end(0);
        x.tearDown(1);
    }

    private static void torn(ShadowLeases x) {
        ended(x);
        x.tearDown(0);
    }

    /** "Creates a registry without buildings and leases" */
    private static void newSquare() {
        ShadowLeases x = new ShadowLeases();
        ShadowLeases y = new ShadowLeases();
        for (int cell = 0; cell < 256; cell++) {
            CHECKS.is("the cell " + cell + " is in no shade", x.shade(cell % 12, cell % 16, cell / 16), -1);
            CHECKS.is("the cell " + cell + " is in no shade", y.shades(cell % 12, cell % 16, cell / 16), 0);
        }
        for (int hour = 0; hour < 12; hour++) {
            for (int what = 0; what < 4; what++) {
                CHECKS.is("an hour of a new registry", x.inHour(hour, what), 0);
            }
        }
    }

    /** "on the day 0" */
    private static void newFigures() {
        for (int what = 0; what < 6; what++) {
            int asked = what;
            EMPTY.answers("count", 0, x -> x.count(asked));
        }
        for (int owner = 0; owner < 8; owner++) {
            int asked = owner;
            EMPTY.answers("got", 0, x -> x.got(asked));
        }
        for (int tenant = 0; tenant < 16; tenant++) {
            int asked = tenant;
            EMPTY.answers("paid", 0, x -> x.paid(asked));
        }
        EMPTY.answers("fulfilled: 1 if no lease stands", 1.0, ShadowLeases::fulfilled);
        EMPTY.answers("advise: -1 if no building stands", -1, x -> x.advise(0, 11, 1, 0));
        EMPTY.answers("advise: -1 if no building stands", -1, x -> x.advise(0, 11, 1, 1));
        EMPTY.answers("digest", NEW_DIGEST, ShadowLeases::digest);
    }

    /** "if there is no such building": not the first one either. */
    private static void noBuilding() {
        for (int number : new int[] {-1, 0, 1, 11, 12}) {
            EMPTY.refuses("tearDown: no building", INDEX, x -> x.tearDown(number));
            EMPTY.refuses("raise: no building", INDEX, x -> x.raise(number, 5));
            EMPTY.refuses("building: no building", INDEX, x -> x.building(number, 0));
            EMPTY.refuses("area: no building", INDEX, x -> x.area(number, 0));
            EMPTY.refuses("let: no building", INDEX, x -> x.let(number, 0, 0, 0, 1, 1));
            EMPTY.refuses("wouldGet: no building", INDEX, x -> x.wouldGet(number, 5));
        }
    }

    /** "if there is no such lease": not the first one either, even if there are buildings. */
    private static void noLease() {
        for (Scene scene : new Scene[] {EMPTY, UNLET}) {
            for (int number : new int[] {-1, 0, 1, 39, 40}) {
                scene.refuses("end: no lease", INDEX, x -> x.end(number));
                scene.refuses("setPrice: no lease", INDEX, x -> x.setPrice(number, 5));
                scene.refuses("lease: no lease", INDEX, x -> x.lease(number, 0));
                scene.refuses("gets: no lease", INDEX, x -> x.gets(number, 0));
                scene.refuses("cellOf: no lease", INDEX, x -> x.cellOf(number, 0, 0));
            }
        }
    }

    private static void noLeaseOfBuildings() {
        UNLET.answers("building: no leases that stand", 0, x -> x.building(0, 7));
        UNLET.answers("tearDown: no lease ends", 0, x -> x.tearDown(0));
        UNLET.answers("count: no leases that stand", 0, x -> x.count(2));
        UNLET.answers("fulfilled: no lease", 1.0, ShadowLeases::fulfilled);
        UNLET.answers("advise: the most are free", 1, x -> x.advise(7, 7, 1, 0));
        UNLET.answers("advise: all are free", 12, x -> x.advise(7, 7, 1, 1));
        for (int height = 1; height <= 9; height++) {
            int asked = height;
            UNLET.answers("wouldGet: nothing is let", 0, x -> x.wouldGet(1, asked));
        }
        for (int hour = 0; hour < 12; hour++) {
            int asked = hour;
            UNLET.answers("inHour: no lease gets cells", 0, x -> x.inHour(asked, 2));
            UNLET.answers("inHour: no lease is short", 0, x -> x.inHour(asked, 3));
        }
    }

    /** "1 if no lease stands", "0 if it has ended", "-1 if it does not get so many" */
    private static void noLeaseStands() {
        ENDED.answers("count: no lease stands", 0, x -> x.count(2));
        ENDED.answers("count: one was evicted", 1, x -> x.count(3));
        ENDED.answers("fulfilled: no lease stands", 1.0, ShadowLeases::fulfilled);
        ENDED.answers("building: no leases that stand", 0, x -> x.building(0, 7));
        ENDED.answers("tearDown: its leases have ended before", 0, x -> x.tearDown(0));
        ENDED.answers("advise: those that have ended take nothing", 6, x -> x.advise(7, 7, 1, 1));
        ENDED.answers("wouldGet: those that have ended pay nothing", 0, x -> x.wouldGet(0, 9));
        for (int number = 0; number < 3; number++) {
            int asked = number;
            ENDED.answers("lease: has ended", 0, x -> x.lease(asked, 6));
            ENDED.answers("lease: is short in no hour", 0, x -> x.lease(asked, 9));
            ENDED.answers("gets: has ended", 0, x -> x.gets(asked, 7) + x.gets(asked, 9));
            ENDED.answers("cellOf: has ended", -1, x -> x.cellOf(asked, 7, 0));
            ENDED.refuses("end: has ended", INDEX, x -> x.end(asked));
            ENDED.refuses("setPrice: has ended", INDEX, x -> x.setPrice(asked, 5));
        }
    }

    /** "or it is torn down", "-1 if no building stands" */
    private static void noBuildingStands() {
        TORN.answers("count: no building stands", 0, x -> x.count(1));
        TORN.answers("count: no cell is covered", 0, x -> x.count(5));
        TORN.answers("advise: no building stands", -1, x -> x.advise(0, 11, 1, 0));
        TORN.answers("advise: no building stands", -1, x -> x.advise(0, 11, 1, 1));
        TORN.answers("shade: no building stands", -1, x -> x.shade(7, 5, 3));
        TORN.answers("shade: no building stands", -1, x -> x.shade(7, 3, 3));
        for (int number = 0; number < 2; number++) {
            int asked = number;
            TORN.answers("building: torn down", 0, x -> x.building(asked, 6));
            TORN.answers("area: torn down", 0, x -> x.area(asked, 7));
            TORN.refuses("tearDown: torn down", INDEX, x -> x.tearDown(asked));
            TORN.refuses("raise: torn down", INDEX, x -> x.raise(asked, 5));
            TORN.refuses("let: torn down", INDEX, x -> x.let(asked, 0, 0, 0, 1, 1));
            TORN.refuses("wouldGet: torn down", INDEX, x -> x.wouldGet(asked, 5));
        }
        for (int hour = 0; hour < 12; hour++) {
            int asked = hour;
            for (int what = 0; what < 4; what++) {
                int other = what;
                TORN.answers("inHour: no building stands", 0, x -> x.inHour(asked, other));
            }
        }
    }

    private static void daysWithoutLeases() {
        for (Scene scene : new Scene[] {EMPTY, UNLET, ENDED, TORN}) {
            scene.answers("pass: none is evicted", 0, x -> x.pass(30));
            scene.answers("pass: nothing is paid", true, x -> {
                int before = x.count(4);
                x.pass(30);
                return x.count(4) == before;
            });
        }
        EMPTY.answers("pass: the day", 30, x -> x.pass(30) + x.count(0));
        TORN.answers("pass: the day", 32, x -> x.pass(30) + x.count(0));
    }

    /** "One that is torn down keeps its number", "A lease stands, or has ended (it keeps its number)." */
    private static void startsAnew() {
        EMPTY.answers("build: the first number", 0, x -> x.build(3, 3, 1, 1, 1, 0));
        UNLET.answers("let: the first number", 0, x -> x.let(1, 0, 0, 0, 1, 1));
        ENDED.answers("let: the next number", 3, x -> x.let(0, 0, 0, 0, 1, 1));
        TORN.answers("build: the next number", 2, x -> x.build(3, 3, 1, 1, 1, 0));
        TORN.answers("let: the next number", 3, x -> x.let(x.build(3, 3, 1, 1, 1, 0), 0, 0, 0, 1, 1));
    }
}
