import java.util.Random;
import java.util.function.DoubleSupplier;

/** Long runs of drawn calls, each answered by ShadowLeases as by PlainModel. */
public final class ModelTest {
    private static final int RUNS = 100;
    private static final int CALLS = 512;
    private static final int DIGEST_EVERY = 40;
    private static final int[] ODD = {Integer.MIN_VALUE, Integer.MAX_VALUE, -1, -2, 100, 256};
    private static final Checks CHECKS = new Checks("ModelTest");

    private final Random random;
    private final int oddness;
    private final int mostSize;
    private final int mostPrice;
    private final ShadowLeases x = new ShadowLeases();
    private final PlainModel model = new PlainModel();
    private String call;

    private ModelTest(int seed) {
        random = new Random(seed);
        oddness = seed % 3 == 0 ? 12 : 200;
        mostSize = 1 + seed % 6;
        mostPrice = seed % 2 == 0 ? 4 : 99;
    }

    public static void main(String[] args) {
        for (int seed = 1; seed <= RUNS; seed++) {
            new ModelTest(seed).run(seed);
        }
        CHECKS.finish();
    }

    private void run(int seed) {
        for (int i = 0; i < CALLS; i++) {
            int kind = random.nextInt(100);
            if (i % DIGEST_EVERY == DIGEST_EVERY / 2) {
                compare(seed, i, "fulfilled", x::fulfilled, model::fulfilled);
            } else if (i % DIGEST_EVERY == DIGEST_EVERY - 1 || i == CALLS - 1) {
                CHECKS.is("run " + seed + ", call " + i + ", digest", x.digest(), model.digest());
            } else if (kind < 40) {
                change(seed, i, kind);
            } else {
                ask(seed, i, kind);
            }
        }
    }

    /** A number from least to most, now and then one just beside or far out. */
    private int draw(int least, int most) {
        if (random.nextInt(oddness) == 0) {
            int odd = random.nextInt(ODD.length + 2);
            return odd < ODD.length ? ODD[odd] : odd == ODD.length ? least - 1 : most + 1;
        }
        return least + random.nextInt(most - least + 1);
    }

    private int drawBuilding() {
        return draw(0, Math.max(0, model.count(1) + random.nextInt(3) - 1));
    }

    private int drawLease() {
        return draw(0, Math.max(0, model.count(2) + random.nextInt(6) - 1));
    }

    private void change(int seed, int i, int kind) {
        int b = drawBuilding();
        int l = drawLease();
        int first = draw(0, 11);
        int last = random.nextInt(20) == 0 ? draw(0, 11) : Math.max(first, draw(0, 11));
        int price = draw(1, mostPrice);
        int height = draw(1, 9);
        if (kind < 8) {
            int wide = draw(1, mostSize);
            int deep = draw(1, mostSize);
            int column = draw(0, 15);
            int row = draw(0, 15);
            int owner = draw(0, 7);
            compare(seed, i, "build(" + column + ", " + row + ", " + wide + ", " + deep + ")",
                () -> x.build(column, row, wide, deep, height, owner),
                () -> model.build(column, row, wide, deep, height, owner));
        } else if (kind < 9) {
            compare(seed, i, "tearDown(" + b + ")", () -> x.tearDown(b), () -> model.tearDown(b));
        } else if (kind < 13) {
            compare(seed, i, "raise(" + b + ", " + height + ")",
                () -> x.raise(b, height), () -> model.raise(b, height));
        } else if (kind < 18) {
            int dx = draw(-1, 1);
            int dy = draw(-1, 1);
            int length = draw(0, 6);
            compare(seed, i, "setSun(" + first + ", " + dx + ", " + dy + ", " + length + ")",
                () -> x.setSun(first, dx, dy, length), () -> model.setSun(first, dx, dy, length));
        } else if (kind < 30) {
            int cells = random.nextBoolean() ? draw(1, 60) : draw(1, 10);
            int tenant = draw(0, 15);
            compare(seed, i, "let(" + b + ", " + first + ", " + last + ", " + cells + ", " + price + ")",
                () -> x.let(b, tenant, first, last, cells, price),
                () -> model.let(b, tenant, first, last, cells, price));
        } else if (kind < 32) {
            compare(seed, i, "end(" + l + ")", () -> x.end(l), () -> model.end(l));
        } else if (kind < 37) {
            compare(seed, i, "setPrice(" + l + ", " + price + ")",
                () -> x.setPrice(l, price), () -> model.setPrice(l, price));
        } else {
            int days = random.nextInt(5) == 0 ? draw(1, 30) : draw(1, 2);
            compare(seed, i, "pass(" + days + ")", () -> x.pass(days), () -> model.pass(days));
        }
    }

    private void ask(int seed, int i, int kind) {
        int b = drawBuilding();
        int l = drawLease();
        int hour = draw(0, 11);
        int column = draw(0, 15);
        int row = draw(0, 15);
        int what = draw(0, 9);
        int last = Math.max(hour, draw(0, 11));
        int price = draw(1, mostPrice);
        int height = draw(1, 9);
        call = "ask " + kind + " with " + b + ", " + l + ", " + hour + ", " + column + ", " + row + ", " + what;
        if (kind < 45) {
            compare(seed, i, call, () -> x.building(b, what), () -> model.building(b, what));
        } else if (kind < 51) {
            compare(seed, i, call, () -> x.shade(hour, column, row), () -> model.shade(hour, column, row));
        } else if (kind < 57) {
            compare(seed, i, call, () -> x.shades(hour, column, row), () -> model.shades(hour, column, row));
        } else if (kind < 62) {
            compare(seed, i, call, () -> x.area(b, hour), () -> model.area(b, hour));
        } else if (kind < 68) {
            compare(seed, i, call, () -> x.inHour(hour, what / 2), () -> model.inHour(hour, what / 2));
        } else if (kind < 74) {
            compare(seed, i, call, () -> x.lease(l, what), () -> model.lease(l, what));
        } else if (kind < 79) {
            compare(seed, i, call, () -> x.gets(l, hour), () -> model.gets(l, hour));
        } else if (kind < 85) {
            compare(seed, i, call, () -> x.cellOf(l, hour, what), () -> model.cellOf(l, hour, what));
        } else if (kind < 88) {
            compare(seed, i, call, () -> x.count(what), () -> model.count(what));
        } else if (kind < 90) {
            compare(seed, i, call, () -> x.got(what), () -> model.got(what));
        } else if (kind < 92) {
            compare(seed, i, call, () -> x.paid(row), () -> model.paid(row));
        } else if (kind < 96) {
            compare(seed, i, call, () -> x.advise(hour, last, price, what / 4),
                () -> model.advise(hour, last, price, what / 4));
        } else if (kind < 99) {
            compare(seed, i, call, () -> x.wouldGet(b, height), () -> model.wouldGet(b, height));
        } else {
            compare(seed, i, call, x::fulfilled, model::fulfilled);
        }
    }

    private static String answer(DoubleSupplier call) {
        try {
            return String.valueOf(call.getAsDouble());
        } catch (RuntimeException thrown) {
            return thrown.getClass().getName();
        }
    }

    private void compare(int seed, int i, String what, DoubleSupplier own, DoubleSupplier due) {
        String got = answer(own);
        String want = answer(due);
        CHECKS.isTrue("run " + seed + ", call " + i + ", " + what + " answered " + got + ", due is " + want,
            got.equals(want));
    }
}
