import java.math.BigInteger;

/** What the document limits: 12 buildings, 40 leases, the day 1000, a digest of 64 bits, and 512 calls. */
public final class LimitsTest {
    private static final Class<IllegalStateException> STATE = IllegalStateException.class;
    private static final Checks CHECKS = new Checks("LimitsTest");
    private static final Scene ELEVEN = new Scene(CHECKS, "eleven buildings", LimitsTest::eleven);
    private static final Scene TWELVE = new Scene(CHECKS, "twelve buildings", LimitsTest::twelve);
    private static final Scene RUINS = new Scene(CHECKS, "twelve that are torn down", LimitsTest::ruins);
    private static final Scene BEFORE_LAST = new Scene(CHECKS, "39 leases", x -> let(x, 39));
    private static final Scene FULL = new Scene(CHECKS, "40 leases", x -> let(x, 40));
    private static final Scene FREED = new Scene(CHECKS, "40 leases that have ended", LimitsTest::freed);
    private static final Scene RICH = new Scene(CHECKS, "the largest amounts", LimitsTest::rich);

    public static void main(String[] args) {
        twelfthBuilding();
        thirteenthBuilding();
        thirteenthOfRuins();
        fortiethLease();
        fortyFirstLease();
        fortyFirstOfEnded();
        dayThousand();
        beyondDayThousand();
        onDayThousand();
        largestAmounts();
        digestOfNew();
        digestOfOne();
        digestWraps();
        digestBelowZero();
        lastCalls();
        CHECKS.finish();
    }

    private static void eleven(ShadowLeases x) {
        for (int number = 0; number < 11; number++) {
            x.build(number, 15, 1, 1, 4, number % 8);
        }
    }

    private static void twelve(ShadowLeases x) {
        eleven(x);
        x.build(6, 6, 2, 2, 4, 7);
    }

    private static void ruins(ShadowLeases x) {
        twelve(x);
        for (int number = 0; number < 12; number++) {
            x.tearDown(number);
        }
    }

    private static void let(ShadowLeases x, int leases) {
        x.build(0, 0, 3, 3, 8, 2);
        x.build(0, 8, 3, 3, 8, 2);
        for (int number = 0; number < leases; number++) {
            x.let(0, number % 16, 7, 7, 1, 50);
        }
    }

    /** Of the 40 leases 12 get their cell; 27 are evicted, and the others end, one of them by its building. */
    private static void freed(ShadowLeases x) {
        let(x, 39);
        x.let(1, 0, 7, 7, 1, 1);
        x.pass(2);
        for (int number = 0; number < 12; number++) {
            x.end(number);
        }
        x.tearDown(1);
    }

    /** From the day 0 to this one. */
    private static void passTo(ShadowLeases x, int day) {
        for (int left = day; left > 0; left -= 30) {
            x.pass(Math.min(30, left));
        }
    }

    /** 240 cells are let at the highest price in every hour of 1000 days. */
    private static void rich(ShadowLeases x) {
        x.build(0, 0, 1, 6, 9, 7);
        x.build(0, 6, 1, 6, 9, 7);
        x.build(0, 12, 1, 4, 9, 7);
        for (int hour = 0; hour < 12; hour++) {
            x.setSun(hour, 1, 0, 6);
        }
        for (int building = 0; building < 2; building++) {
            x.let(building, 15, 0, 11, 60, 99);
            x.let(building, 15, 0, 11, 30, 99);
        }
        x.let(2, 15, 0, 11, 60, 99);
        passTo(x, 1000);
    }

    /** "There are at most 12": the twelfth is like all others. */
    private static void twelfthBuilding() {
        ELEVEN.answers("the 12th building", 11, x -> x.build(6, 6, 2, 2, 4, 7));
        TWELVE.answers("the 12th stands", 12, x -> x.count(1));
        TWELVE.answers("the 12th covers", -2, x -> x.shade(7, 7, 7));
        TWELVE.answers("the 12th casts", 11, x -> x.shade(7, 9, 7));
        TWELVE.answers("the 12th's area", 4, x -> x.area(11, 7));
        TWELVE.answers("the 12th is raised", 4, x -> x.raise(11, 9));
        TWELVE.answers("the 12th is let", 11, x -> x.lease(x.let(11, 0, 7, 7, 3, 5), 0));
        TWELVE.answers("the 12th's lease pays", 15, x -> x.let(11, 0, 7, 7, 3, 5) + x.pass(1) + x.got(7));
        TWELVE.answers("the 12th is the best", 11, x -> x.advise(7, 7, 1, 0));
        TWELVE.answers("the 12th would get", 4 * 5, x -> x.let(11, 0, 7, 7, 4, 5) + x.wouldGet(11, 5));
        TWELVE.answers("the 12th is torn down", 0, x -> x.tearDown(11));
    }

    /** "or there are 12" */
    private static void thirteenthBuilding() {
        TWELVE.refuses("a 13th building", STATE, x -> x.build(0, 0, 1, 1, 1, 0));
        TWELVE.refuses("a 13th building, the largest", STATE, x -> x.build(0, 0, 6, 6, 9, 7));
        TWELVE.refuses("a 13th building that overlaps", STATE, x -> x.build(7, 7, 1, 1, 1, 0));
        TWELVE.refuses("and a 14th", STATE, x -> {
            Answers.to(y -> y.build(0, 0, 1, 1, 1, 0), x);
            return x.build(0, 2, 1, 1, 1, 0);
        });
    }

    /** "(those that are torn down, too)" */
    private static void thirteenthOfRuins() {
        RUINS.answers("none of the twelve stands", 0, x -> x.count(1));
        RUINS.refuses("a 13th where none stands", STATE, x -> x.build(0, 0, 1, 1, 1, 0));
        RUINS.refuses("a 13th where one stood", STATE, x -> x.build(6, 6, 2, 2, 4, 7));
    }

    /** "There are at most 40": the 40th is like all others. */
    private static void fortiethLease() {
        BEFORE_LAST.answers("the 40th lease", 39, x -> x.let(1, 15, 0, 11, 60, 99));
        BEFORE_LAST.answers("the 40th gets", 12, x -> x.gets(x.let(1, 15, 0, 11, 60, 99), 7));
        BEFORE_LAST.answers("the 40th's first cell", 131, x -> x.cellOf(x.let(1, 15, 7, 7, 60, 99), 7, 0));
        BEFORE_LAST.answers("the 40th goes first", 3, x -> x.cellOf(x.let(0, 15, 7, 7, 1, 51), 7, 0));
        BEFORE_LAST.answers("the 40th pays", 120, x -> {
            x.let(1, 15, 7, 7, 12, 10);
            x.pass(1);
            return x.paid(15);
        });
        FULL.answers("40 leases stand", 40, x -> x.count(2));
        FULL.answers("40 leases of a building", 40, x -> x.building(0, 7));
        FULL.answers("28 leases are short", 28, x -> x.inHour(7, 3));
        FULL.answers("28 leases are evicted", 28, x -> x.pass(2));
        FULL.answers("40 leases end", 40, x -> x.tearDown(0));
        FULL.answers("the first of 40 ends", 0, x -> x.tearDown(0) + x.lease(0, 6) - 40);
        FULL.answers("the last of 40 ends", 0, x -> x.tearDown(0) + x.lease(39, 6) - 40);
        FULL.answers("the 40th ends", 0, x -> x.end(39));
        FULL.answers("the 40th's price", 50, x -> x.setPrice(39, 99));
        FULL.answers("fulfilled of 40", 12.0 / 40.0, ShadowLeases::fulfilled);
    }

    /** "if there are 40" */
    private static void fortyFirstLease() {
        FULL.refuses("a 41st lease", STATE, x -> x.let(0, 0, 7, 7, 1, 50));
        FULL.refuses("a 41st lease of another building", STATE, x -> x.let(1, 15, 0, 11, 60, 99));
        FULL.refuses("and a 42nd", STATE, x -> {
            Answers.to(y -> y.let(0, 0, 7, 7, 1, 50), x);
            return x.let(1, 0, 0, 0, 1, 1);
        });
    }

    /** "(those that have ended, too)" */
    private static void fortyFirstOfEnded() {
        FREED.answers("none of the 40 stands", 0, x -> x.count(2));
        FREED.answers("27 of them were evicted", 27, x -> x.count(3));
        FREED.refuses("a 41st where none stands", STATE, x -> x.let(0, 0, 7, 7, 1, 50));
    }

    /** "if the day would be greater than 1000": the day 1000 itself is reached. */
    private static void dayThousand() {
        for (int days = 1; days <= 30; days++) {
            ShadowLeases x = new ShadowLeases();
            passTo(x, 1000 - days);
            CHECKS.is("to the day 1000", x.pass(days), 0);
            CHECKS.is("the day 1000", x.count(0), 1000);
        }
    }

    private static void beyondDayThousand() {
        for (int day : new int[] {971, 990, 999, 1000}) {
            Scene late = new Scene(CHECKS, "the day " + day, x -> {
                let(x, 5);
                passTo(x, day);
            });
            late.refuses("one day more than 1000", STATE, x -> x.pass(1001 - day));
            late.refuses("30 days more", STATE, x -> x.pass(30));
            if (day < 1000) {
                late.answers("all days but no more", 0, x -> x.pass(1000 - day));
                late.answers("one day", day + 1, x -> x.pass(1) + x.count(0));
            }
        }
    }

    /** Only the days end there: all other calls go on. */
    private static void onDayThousand() {
        RICH.answers("build on the last day", 3, x -> x.build(8, 8, 1, 1, 1, 0));
        RICH.answers("tearDown on the last day", 1, x -> x.tearDown(2));
        RICH.answers("raise on the last day", 9, x -> x.raise(0, 1));
        RICH.answers("setSun on the last day", 6, x -> x.setSun(0, -1, 0, 0));
        RICH.answers("let on the last day", 5, x -> x.let(0, 0, 0, 0, 1, 1));
        RICH.answers("end on the last day", 0, x -> x.end(0));
        RICH.answers("setPrice on the last day", 99, x -> x.setPrice(0, 1));
        RICH.answers("wouldGet on the last day", 12 * 240 * 99, x -> x.wouldGet(0, 9));
        RICH.answers("fulfilled on the last day", 1.0, ShadowLeases::fulfilled);
    }

    private static void largestAmounts() {
        int all = 1000 * 12 * 240 * 99;
        RICH.answers("what the owner got", all, x -> x.got(7));
        RICH.answers("what the tenant paid", all, x -> x.paid(15));
        RICH.answers("what all tenants have paid", all, x -> x.count(4));
        RICH.answers("what a lease has paid", 1000 * 12 * 60 * 99, x -> x.lease(4, 8));
        RICH.answers("none is short", 0, x -> x.count(3));
    }

    /** Worked out apart from Java, from the document's words. */
    private static void digestOfNew() {
        CHECKS.is("the digest of a new registry", new ShadowLeases().digest(), 2118189814951213097L);
    }

    private static void digestOfOne() {
        ShadowLeases x = new ShadowLeases();
        x.build(0, 0, 1, 1, 1, 0);
        CHECKS.is("the digest of a registry with one building", x.digest(), -6615731945929902967L);
    }

    private static BigInteger add(BigInteger d, long number) {
        return d.multiply(BigInteger.valueOf(31)).add(BigInteger.valueOf(number));
    }

    private static int[][] suns(boolean noonForAll) {
        int[][] suns = new int[12][];
        for (int hour = 0; hour < 12; hour++) {
            suns[hour] = noonForAll ? new int[] {1, 0, 6}
                : hour < 5 ? new int[] {-1, 0, 5 - hour}
                : hour < 7 ? new int[] {0, -1, 1} : new int[] {1, 0, hour - 6};
        }
        return suns;
    }

    /** All numbers of the digest in their order, without any wrap-around; each answer of a new object. */
    private static BigInteger endless(Scene scene, int[][] suns, int buildings, int leases) {
        ShadowLeases x = scene.make();
        BigInteger d = BigInteger.valueOf(487);
        for (int what = 0; what < 6; what++) {
            d = add(d, x.count(what));
        }
        for (int hour = 0; hour < 12; hour++) {
            for (int part : suns[hour]) {
                d = add(d, part);
            }
            for (int what = 0; what < 4; what++) {
                d = add(d, x.inHour(hour, what));
            }
        }
        x = scene.make();
        for (int number = 0; number < buildings; number++) {
            for (int what = 0; what < 8; what++) {
                d = add(d, x.building(number, what));
            }
            for (int hour = 0; hour < 12; hour++) {
                d = add(d, x.area(number, hour));
            }
        }
        x = scene.make();
        for (int number = 0; number < leases; number++) {
            for (int what = 0; what < 10; what++) {
                d = add(d, x.lease(number, what));
            }
        }
        x = scene.make();
        for (int owner = 0; owner < 8; owner++) {
            d = add(d, x.got(owner));
        }
        for (int tenant = 0; tenant < 16; tenant++) {
            d = add(d, x.paid(tenant));
        }
        return d;
    }

    /** "d becomes d * 31 + x, which wraps around as a 64-bit integer" */
    private static void digestWraps() {
        BigInteger full = endless(FULL, suns(false), 2, 40);
        BigInteger rich = endless(RICH, suns(true), 3, 5);
        BigInteger twelve = endless(TWELVE, suns(false), 12, 0);
        BigInteger freed = endless(FREED, suns(false), 2, 40);
        FULL.answers("digest with 40 leases", full.longValue(), ShadowLeases::digest);
        RICH.answers("digest of large amounts", rich.longValue(), ShadowLeases::digest);
        TWELVE.answers("digest with 12 buildings", twelve.longValue(), ShadowLeases::digest);
        FREED.answers("digest of ended leases", freed.longValue(), ShadowLeases::digest);
        CHECKS.isTrue("the digests go far beyond 64 bits", twelve.bitLength() > 1000 && rich.bitLength() > 900);
    }

    /** The highest bit is the sign, as in a long. */
    private static void digestBelowZero() {
        int below = 0;
        int above = 0;
        ShadowLeases x = new ShadowLeases();
        for (int day = 0; day < 60; day++) {
            int today = day;
            long told = x.digest();
            BigInteger due = endless(new Scene(CHECKS, "days", y -> passTo(y, today)), suns(false), 0, 0);
            CHECKS.is("the digest of the day " + day, told, due.longValue());
            below += told < 0 ? 1 : 0;
            above += told > 0 ? 1 : 0;
            x.pass(1);
        }
        CHECKS.isTrue("digests below and above zero", below > 10 && above > 10);
    }

    /** "An object is used for at most 512 calls": the last of them, too, is answered. */
    private static void lastCalls() {
        ShadowLeases x = new ShadowLeases();
        x.build(0, 5, 1, 1, 1, 0);
        x.let(0, 0, 7, 7, 4, 3);
        for (int call = 3; call <= 509; call++) {
            int height = 1 + call % 9;
            int before = call == 3 ? 1 : 1 + (call - 1) % 9;
            CHECKS.is("the call " + call, x.raise(0, height), before);
        }
        CHECKS.is("the call 510", x.raise(0, 8), 6);
        CHECKS.is("the call 511", x.pass(1), 0);
        CHECKS.is("the call 512", x.got(0), 12);
    }
}
