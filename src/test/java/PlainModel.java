import java.util.ArrayList;
import java.util.Arrays;
import java.util.Collections;
import java.util.HashSet;
import java.util.List;
import java.util.Set;

/** The document's words once more, in the plainest form; what is worked out is forgotten at each change. */
final class PlainModel {
    private final List<int[]> buildings = new ArrayList<>();
    private final List<int[]> leases = new ArrayList<>();
    private final int[][] sun = new int[12][];
    private final int[] got = new int[8];
    private final int[] paid = new int[16];
    private int day;
    private int evicted;
    private final int[][] shadeMaps = new int[12][];
    private final List<List<List<Integer>>> allotments = new ArrayList<>();

    PlainModel() {
        for (int hour = 0; hour < 12; hour++) {
            allotments.add(null);
            sun[hour] = hour <= 4 ? new int[] {-1, 0, 5 - hour}
                : hour <= 6 ? new int[] {0, -1, 1} : new int[] {1, 0, hour - 6};
        }
    }

    // A building: x, y, wide, deep, height, owner, stands.
    // A lease: building, tenant, first, last, cells, price, stands, warnings, paid.

    private void changed() {
        Arrays.fill(shadeMaps, null);
        Collections.fill(allotments, null);
    }

    private static boolean in(int value, int least, int most) {
        return least <= value && value <= most;
    }

    private static void index(boolean holds) {
        if (!holds) {
            throw new IndexOutOfBoundsException();
        }
    }

    private static void argument(boolean holds) {
        if (!holds) {
            throw new IllegalArgumentException();
        }
    }

    private static void state(boolean holds) {
        if (!holds) {
            throw new IllegalStateException();
        }
    }

    private boolean stands(int building) {
        return in(building, 0, buildings.size() - 1) && buildings.get(building)[6] == 1;
    }

    private boolean leased(int lease) {
        return in(lease, 0, leases.size() - 1) && leases.get(lease)[6] == 1;
    }

    private static boolean covers(int[] b, int x, int y) {
        return b[6] == 1 && in(x, b[0], b[0] + b[2] - 1) && in(y, b[1], b[1] + b[3] - 1);
    }

    private boolean covered(int x, int y) {
        for (int[] b : buildings) {
            if (covers(b, x, y)) {
                return true;
            }
        }
        return false;
    }

    /** The smallest k for which the cell lies in the shade of the building in this hour, else 0. */
    private int smallestStep(int[] b, int hour, int x, int y) {
        if (covered(x, y)) {
            return 0;
        }
        int[] s = sun[hour];
        for (int k = 1; k <= s[2] * b[4] / 2; k++) {
            if (covers(b, x - k * s[0], y - k * s[1])) {
                return k;
            }
        }
        return 0;
    }

    private List<Integer> shadeOf(int building, int hour) {
        if (shadeMaps[hour] == null) {
            shadeMaps[hour] = new int[256];
            for (int cell = 0; cell < 256; cell++) {
                shadeMaps[hour][cell] = shade(hour, cell % 16, cell / 16);
            }
        }
        List<Integer> cells = new ArrayList<>();
        for (int cell = 0; cell < 256; cell++) {
            if (shadeMaps[hour][cell] == building) {
                cells.add(cell);
            }
        }
        return cells;
    }

    private boolean has(int[] l, int hour) {
        return l[6] == 1 && in(hour, l[2], l[3]);
    }

    /** What every lease gets in this hour. */
    private List<List<Integer>> allot(int hour) {
        if (allotments.get(hour) == null) {
            allotments.set(hour, allotAnew(hour));
        }
        return allotments.get(hour);
    }

    private List<List<Integer>> allotAnew(int hour) {
        List<List<Integer>> parts = new ArrayList<>();
        List<Integer> order = new ArrayList<>();
        for (int i = 0; i < leases.size(); i++) {
            parts.add(new ArrayList<>());
            order.add(i);
        }
        order.sort((a, b) -> leases.get(b)[5] - leases.get(a)[5]);
        for (int building = 0; building < buildings.size(); building++) {
            List<Integer> free = shadeOf(building, hour);
            for (int i : order) {
                int[] l = leases.get(i);
                while (l[0] == building && has(l, hour) && parts.get(i).size() < l[4] && !free.isEmpty()) {
                    parts.get(i).add(free.remove(0));
                }
            }
        }
        return parts;
    }

    int build(int x, int y, int wide, int deep, int height, int owner) {
        argument(in(wide, 1, 6) && in(deep, 1, 6) && in(x, 0, 16 - wide) && in(y, 0, 16 - deep));
        argument(in(height, 1, 9) && in(owner, 0, 7));
        for (int i = x; i < x + wide; i++) {
            for (int j = y; j < y + deep; j++) {
                state(!covered(i, j));
            }
        }
        state(buildings.size() < 12);
        changed();
        buildings.add(new int[] {x, y, wide, deep, height, owner, 1});
        return buildings.size() - 1;
    }

    int tearDown(int building) {
        index(stands(building));
        changed();
        buildings.get(building)[6] = 0;
        int ended = 0;
        for (int[] l : leases) {
            if (l[0] == building && l[6] == 1) {
                l[6] = 0;
                ended++;
            }
        }
        return ended;
    }

    int raise(int building, int height) {
        index(stands(building));
        argument(in(height, 1, 9));
        int before = buildings.get(building)[4];
        changed();
        buildings.get(building)[4] = height;
        return before;
    }

    int setSun(int hour, int dx, int dy, int length) {
        index(in(hour, 0, 11));
        argument(in(dx, -1, 1) && in(dy, -1, 1) && !(dx == 0 && dy == 0) && in(length, 0, 6));
        int before = sun[hour][2];
        changed();
        sun[hour] = new int[] {dx, dy, length};
        return before;
    }

    int building(int building, int what) {
        index(in(building, 0, buildings.size() - 1) && in(what, 0, 7));
        if (what < 7) {
            return buildings.get(building)[what];
        }
        int found = 0;
        for (int[] l : leases) {
            found += l[0] == building ? l[6] : 0;
        }
        return found;
    }

    int shade(int hour, int x, int y) {
        index(in(hour, 0, 11) && in(x, 0, 15) && in(y, 0, 15));
        if (covered(x, y)) {
            return -2;
        }
        int best = -1;
        int least = 1000;
        for (int i = 0; i < buildings.size(); i++) {
            int k = smallestStep(buildings.get(i), hour, x, y);
            if (k > 0 && k < least) {
                least = k;
                best = i;
            }
        }
        return best;
    }

    int shades(int hour, int x, int y) {
        index(in(hour, 0, 11) && in(x, 0, 15) && in(y, 0, 15));
        int found = 0;
        for (int[] b : buildings) {
            found += smallestStep(b, hour, x, y) > 0 ? 1 : 0;
        }
        return found;
    }

    int area(int building, int hour) {
        index(in(building, 0, buildings.size() - 1) && in(hour, 0, 11));
        return shadeOf(building, hour).size();
    }

    int inHour(int hour, int what) {
        index(in(hour, 0, 11) && in(what, 0, 3));
        int found = 0;
        if (what < 2) {
            for (int cell = 0; cell < 256; cell++) {
                found += shades(hour, cell % 16, cell / 16) > what ? 1 : 0;
            }
            return found;
        }
        List<List<Integer>> parts = allot(hour);
        for (int i = 0; i < parts.size(); i++) {
            boolean isShort = has(leases.get(i), hour) && parts.get(i).size() < leases.get(i)[4];
            found += what == 2 ? parts.get(i).size() : isShort ? 1 : 0;
        }
        return found;
    }

    int let(int building, int tenant, int first, int last, int cells, int price) {
        index(stands(building));
        argument(in(tenant, 0, 15) && in(first, 0, 11) && in(last, 0, 11) && first <= last);
        argument(in(cells, 1, 60) && in(price, 1, 99));
        state(leases.size() < 40);
        changed();
        leases.add(new int[] {building, tenant, first, last, cells, price, 1, 0, 0});
        return leases.size() - 1;
    }

    int end(int lease) {
        index(leased(lease));
        changed();
        leases.get(lease)[6] = 0;
        return leases.get(lease)[7];
    }

    int setPrice(int lease, int price) {
        index(leased(lease));
        argument(in(price, 1, 99));
        int before = leases.get(lease)[5];
        changed();
        leases.get(lease)[5] = price;
        return before;
    }

    int lease(int lease, int what) {
        index(in(lease, 0, leases.size() - 1) && in(what, 0, 9));
        int[] l = leases.get(lease);
        if (what < 9) {
            return l[what];
        }
        int found = 0;
        for (int hour = 0; hour < 12; hour++) {
            found += has(l, hour) && allot(hour).get(lease).size() < l[4] ? 1 : 0;
        }
        return found;
    }

    int gets(int lease, int hour) {
        index(in(lease, 0, leases.size() - 1) && in(hour, 0, 11));
        return allot(hour).get(lease).size();
    }

    int cellOf(int lease, int hour, int index) {
        index(in(lease, 0, leases.size() - 1) && in(hour, 0, 11) && index >= 0);
        List<Integer> part = allot(hour).get(lease);
        return index < part.size() ? part.get(index) : -1;
    }

    int pass(int days) {
        argument(in(days, 1, 30));
        state(day + days <= 1000);
        int before = evicted;
        for (int i = 0; i < days; i++) {
            passDay();
        }
        return evicted - before;
    }

    private void passDay() {
        int[] shortHours = new int[leases.size()];
        for (int hour = 0; hour < 12; hour++) {
            List<List<Integer>> parts = allot(hour);
            for (int i = 0; i < leases.size(); i++) {
                int[] l = leases.get(i);
                int amount = parts.get(i).size() * l[5];
                got[buildings.get(l[0])[5]] += amount;
                paid[l[1]] += amount;
                l[8] += amount;
                shortHours[i] += has(l, hour) && parts.get(i).size() < l[4] ? 1 : 0;
            }
        }
        for (int i = 0; i < leases.size(); i++) {
            int[] l = leases.get(i);
            if (l[6] == 1) {
                l[7] = 2 * shortHours[i] > l[3] - l[2] + 1 ? l[7] + 1 : 0;
                if (l[7] == 2) {
                    l[6] = 0;
                    evicted++;
                }
            }
        }
        changed();
        day++;
    }

    int count(int what) {
        index(in(what, 0, 5));
        int[] answers = {day, 0, 0, evicted, 0, 0};
        for (int[] b : buildings) {
            answers[1] += b[6];
        }
        for (int[] l : leases) {
            answers[2] += l[6];
        }
        for (int amount : paid) {
            answers[4] += amount;
        }
        for (int cell = 0; cell < 256; cell++) {
            answers[5] += covered(cell % 16, cell / 16) ? 1 : 0;
        }
        return answers[what];
    }

    int got(int owner) {
        index(in(owner, 0, 7));
        return got[owner];
    }

    int paid(int tenant) {
        index(in(tenant, 0, 15));
        return paid[tenant];
    }

    int advise(int first, int last, int price, int what) {
        argument(in(first, 0, 11) && in(last, 0, 11) && first <= last && in(price, 1, 99));
        index(in(what, 0, 1));
        int best = -1;
        int most = -1;
        for (int building = 0; building < buildings.size(); building++) {
            int fewest = 1000;
            for (int hour = first; hour <= last; hour++) {
                Set<Integer> free = new HashSet<>(shadeOf(building, hour));
                List<List<Integer>> parts = allot(hour);
                for (int i = 0; i < leases.size(); i++) {
                    if (leases.get(i)[5] >= price) {
                        free.removeAll(parts.get(i));
                    }
                }
                fewest = Math.min(fewest, free.size());
            }
            if (stands(building) && fewest > most) {
                best = building;
                most = fewest;
            }
        }
        return what == 0 ? best : most;
    }

    int wouldGet(int building, int height) {
        index(stands(building));
        argument(in(height, 1, 9));
        int before = raise(building, height);
        int owner = buildings.get(building)[5];
        int sum = 0;
        for (int hour = 0; hour < 12; hour++) {
            List<List<Integer>> parts = allot(hour);
            for (int i = 0; i < leases.size(); i++) {
                boolean theirs = buildings.get(leases.get(i)[0])[5] == owner;
                sum += theirs ? parts.get(i).size() * leases.get(i)[5] : 0;
            }
        }
        raise(building, before);
        return sum;
    }

    double fulfilled() {
        int given = 0;
        int asked = 0;
        for (int hour = 0; hour < 12; hour++) {
            List<List<Integer>> parts = allot(hour);
            for (int i = 0; i < leases.size(); i++) {
                given += parts.get(i).size();
                asked += has(leases.get(i), hour) ? leases.get(i)[4] : 0;
            }
        }
        return asked == 0 ? 1 : (double) given / asked;
    }

    long digest() {
        List<Integer> all = new ArrayList<>();
        for (int what = 0; what < 6; what++) {
            all.add(count(what));
        }
        for (int hour = 0; hour < 12; hour++) {
            for (int part : sun[hour]) {
                all.add(part);
            }
            for (int what = 0; what < 4; what++) {
                all.add(inHour(hour, what));
            }
        }
        for (int i = 0; i < buildings.size(); i++) {
            for (int what = 0; what < 8; what++) {
                all.add(building(i, what));
            }
            for (int hour = 0; hour < 12; hour++) {
                all.add(area(i, hour));
            }
        }
        for (int i = 0; i < leases.size(); i++) {
            for (int what = 0; what < 10; what++) {
                all.add(lease(i, what));
            }
        }
        for (int amount : got) {
            all.add(amount);
        }
        for (int amount : paid) {
            all.add(amount);
        }
        long d = 487;
        for (int number : all) {
            d = d * 31 + number;
        }
        return d;
    }
}
