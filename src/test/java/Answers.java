import java.util.ArrayList;
import java.util.List;

/** All that a registry can be asked, in parts: an object is used for at most 512 calls. */
final class Answers {
    interface Call {
        Object on(ShadowLeases x);
    }

    private static final int PART = 400;
    private static final List<List<Call>> PARTS = parted(questions());

    private Answers() {
    }

    static int parts() {
        return PARTS.size();
    }

    static List<String> toPart(int part, ShadowLeases x) {
        List<String> answers = new ArrayList<>();
        for (Call question : PARTS.get(part)) {
            answers.add(to(question, x));
        }
        return answers;
    }

    /** What a call answers, or the name of what it throws. */
    static String to(Call call, ShadowLeases x) {
        try {
            return String.valueOf(call.on(x));
        } catch (RuntimeException thrown) {
            String thrower = thrown.getStackTrace()[0].getClassName();
            String name = thrown.getClass().getSimpleName();
            return thrower.equals("ShadowLeases") ? name : name + " thrown by " + thrower;
        }
    }

    private static List<List<Call>> parted(List<Call> all) {
        List<List<Call>> parts = new ArrayList<>();
        for (int from = 0; from < all.size(); from += PART) {
            parts.add(all.subList(from, Math.min(all.size(), from + PART)));
        }
        parts.add(laterLife());
        return parts;
    }

    private static List<Call> questions() {
        List<Call> all = new ArrayList<>();
        addRegistry(all);
        addBuildings(all);
        addLeases(all);
        addAdvice(all);
        addShade(all);
        return all;
    }

    private static void addRegistry(List<Call> all) {
        all.add(ShadowLeases::digest);
        all.add(ShadowLeases::fulfilled);
        for (int what = 0; what < 6; what++) {
            int asked = what;
            all.add(x -> x.count(asked));
        }
        for (int owner = 0; owner < 8; owner++) {
            int asked = owner;
            all.add(x -> x.got(asked));
        }
        for (int tenant = 0; tenant < 16; tenant++) {
            int asked = tenant;
            all.add(x -> x.paid(asked));
        }
    }

    private static void addBuildings(List<Call> all) {
        for (int building = 0; building < 12; building++) {
            int asked = building;
            for (int number = 0; number < 12; number++) {
                int other = number;
                all.add(x -> x.building(asked, other % 8));
                all.add(x -> x.area(asked, other));
                all.add(x -> x.wouldGet(asked, 1 + other % 9));
            }
        }
    }

    private static void addLeases(List<Call> all) {
        for (int lease = 0; lease < 40; lease++) {
            int asked = lease;
            for (int number = 0; number < 12; number++) {
                int other = number;
                all.add(x -> x.lease(asked, other % 10));
                all.add(x -> x.gets(asked, other));
                all.add(x -> x.cellOf(asked, other, 0));
                all.add(x -> x.cellOf(asked, other, 1 + asked % 7));
            }
        }
    }

    private static void addAdvice(List<Call> all) {
        for (int first = 0; first < 12; first++) {
            for (int last = first; last < 12; last++) {
                int from = first;
                int to = last;
                all.add(x -> x.advise(from, to, 1, 0));
                all.add(x -> x.advise(from, to, 1, 1));
                all.add(x -> x.advise(from, to, 15, 0));
                all.add(x -> x.advise(from, to, 15, 1));
                all.add(x -> x.advise(from, to, 99, 1));
            }
        }
    }

    private static void addShade(List<Call> all) {
        for (int hour = 0; hour < 12; hour++) {
            int asked = hour;
            for (int what = 0; what < 4; what++) {
                int other = what;
                all.add(x -> x.inHour(asked, other));
            }
            for (int cell = 0; cell < 256; cell++) {
                int column = cell % 16;
                int row = cell / 16;
                all.add(x -> x.shade(asked, column, row));
                all.add(x -> x.shades(asked, column, row));
            }
        }
    }

    /** What is not told may still be felt later: the next numbers, days and changes tell it. */
    private static List<Call> laterLife() {
        List<Call> all = new ArrayList<>();
        all.add(x -> x.build(15, 15, 1, 1, 5, 6));
        all.add(x -> x.let(0, 8, 3, 9, 6, 17));
        all.add(x -> x.let(1, 8, 0, 11, 2, 98));
        all.add(x -> x.pass(1));
        all.add(ShadowLeases::digest);
        for (int hour = 0; hour < 12; hour++) {
            int asked = hour;
            all.add(x -> x.setSun(asked, asked < 6 ? 1 : -1, asked % 3 - 1, asked % 7));
        }
        for (int number = 0; number < 40; number++) {
            int asked = number;
            all.add(x -> x.setPrice(asked, 1 + (asked + 37) % 99));
            all.add(x -> x.raise(asked % 12, 1 + asked % 9));
        }
        all.add(x -> x.pass(2));
        all.add(ShadowLeases::digest);
        for (int number = 0; number < 40; number++) {
            int asked = number;
            all.add(x -> x.end(asked));
            all.add(x -> x.tearDown(asked));
        }
        all.add(x -> x.pass(1));
        all.add(ShadowLeases::digest);
        return all;
    }
}
