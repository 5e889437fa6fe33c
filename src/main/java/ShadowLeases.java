import java.util.ArrayList;
import java.util.Arrays;

/** A registry of leases of shadows. */
public final class ShadowLeases {
    private static final int SIDE = 16;
    private static final int CELLS = SIDE * SIDE;
    private static final int HOURS = 12;
    private static final int OWNERS = 8;
    private static final int TENANTS = 16;
    private static final int MOST_BUILDINGS = 12;
    private static final int MOST_LEASES = 40;
    private static final int WIDEST = 6;
    private static final int TALLEST = 9;
    private static final int LONGEST = 6;
    private static final int MOST_CELLS = 60;
    private static final int HIGHEST_PRICE = 99;
    private static final int MOST_DAYS = 30;
    private static final int LAST_DAY = 1000;
    private static final int WARNINGS_TO_EVICT = 2;

    private static final int COUNT_KINDS = 6;
    private static final int HOUR_KINDS = 4;
    private static final int BUILDING_KINDS = 8;
    private static final int LEASE_KINDS = 10;
    private static final int ADVICE_KINDS = 2;

    private static final int NONE = -1;
    private static final int COVERED = -2;

    private final Square square = new Square();
    private final ArrayList<Hour> hours = new ArrayList<>();
    private final ArrayList<Lease> leases = new ArrayList<>();
    private final int[] gotByOwner = new int[OWNERS];
    private final int[] paidByTenant = new int[TENANTS];
    private int day;
    private int evicted;

    /** Creates a registry without buildings and leases, on the day 0. */
    public ShadowLeases() {
        int[] steps = new int[CELLS];
        for (int number = 0; number < HOURS; number++) {
            hours.add(new Hour(number, steps));
        }
    }

    // ---- the square

    /** Builds; returns the number of the building. */
    public int build(int x, int y, int wide, int deep, int height, int owner)
            throws IllegalArgumentException, IllegalStateException {
        needArgument(wide, 1, WIDEST);
        needArgument(deep, 1, WIDEST);
        needArgument(x, 0, SIDE - wide);
        needArgument(y, 0, SIDE - deep);
        needArgument(height, 1, TALLEST);
        needArgument(owner, 0, OWNERS - 1);
        int number = square.buildings.size();
        Building site = new Building(number, x, y, wide, deep, height, owner);
        if (number >= MOST_BUILDINGS || !square.isFree(site)) {
            throw new IllegalStateException("there is no room for this building");
        }
        square.buildings.add(site);
        square.setCovered(site, true);
        forgetShades();
        return number;
    }

    /** Tears a building down and ends its leases; returns how many end by this. */
    public int tearDown(int building) throws IndexOutOfBoundsException {
        Building site = standingBuilding(building);
        int ended = leasesOf(building);
        for (int i = 0; i < leases.size(); i++) {
            Lease lease = leases.get(i);
            if (lease.building == building) {
                lease.stands = false;
            }
        }
        site.stands = false;
        square.setCovered(site, false);
        forgetShades();
        return ended;
    }

    /** Makes a building higher or lower; returns its height before. */
    public int raise(int building, int height)
            throws IndexOutOfBoundsException, IllegalArgumentException {
        Building site = standingBuilding(building);
        needArgument(height, 1, TALLEST);
        int before = site.height;
        changeHeight(site, height);
        return before;
    }

    /** Sets the sun of an hour; returns the length before. */
    public int setSun(int hour, int dx, int dy, int length)
            throws IndexOutOfBoundsException, IllegalArgumentException {
        Hour changed = hourAt(hour);
        needArgument(dx, -1, 1);
        needArgument(dy, -1, 1);
        needArgument(length, 0, LONGEST);
        if (dx == 0 && dy == 0) {
            throw new IllegalArgumentException("the sun has no direction");
        }
        int before = changed.length;
        changed.dx = dx;
        changed.dy = dy;
        changed.length = length;
        changed.forgetShade();
        return before;
    }

    /** Tells of a building, also of one that is torn down, what is asked for by number. */
    public int building(int building, int what) throws IndexOutOfBoundsException {
        Building site = buildingAt(building);
        needIndex(what, BUILDING_KINDS);
        switch (what) {
            case 0:
                return site.x;
            case 1:
                return site.y;
            case 2:
                return site.wide;
            case 3:
                return site.deep;
            case 4:
                return site.height;
            case 5:
                return site.owner;
            case 6:
                return site.stands ? 1 : 0;
            default:
                return leasesOf(building);
        }
    }

    // ---- shade

    /** Returns to whose shade a cell belongs; -1 if to none, -2 if a building covers it. */
    public int shade(int hour, int x, int y) throws IndexOutOfBoundsException {
        needIndex(x, SIDE);
        needIndex(y, SIDE);
        return measuredHour(hour).holder[x + SIDE * y];
    }

    /** Returns in the shade of how many buildings a cell lies; 0 if one covers it. */
    public int shades(int hour, int x, int y) throws IndexOutOfBoundsException {
        needIndex(x, SIDE);
        needIndex(y, SIDE);
        return measuredHour(hour).layers[x + SIDE * y];
    }

    /** Returns how many cells the shade of a building has. */
    public int area(int building, int hour) throws IndexOutOfBoundsException {
        buildingAt(building);
        return measuredHour(hour).areaOf(building);
    }

    /** Tells of an hour what is asked for by number. */
    public int inHour(int hour, int what) throws IndexOutOfBoundsException {
        needIndex(what, HOUR_KINDS);
        return allottedHour(hour).figure(what);
    }

    // ---- leases

    /** Lets shade; returns the number of the lease. */
    public int let(int building, int tenant, int first, int last, int cells, int price)
            throws IndexOutOfBoundsException, IllegalArgumentException, IllegalStateException {
        standingBuilding(building);
        needArgument(tenant, 0, TENANTS - 1);
        needArgument(last, 0, HOURS - 1);
        needArgument(first, 0, last);
        needArgument(cells, 1, MOST_CELLS);
        needArgument(price, 1, HIGHEST_PRICE);
        int number = leases.size();
        if (number >= MOST_LEASES) {
            throw new IllegalStateException("there is no room for this lease");
        }
        leases.add(new Lease(number, building, tenant, first, last, cells, price));
        forgetAllotments();
        return number;
    }

    /** Ends a lease; returns its warnings. */
    public int end(int lease) throws IndexOutOfBoundsException {
        Lease ended = standingLease(lease);
        ended.stands = false;
        forgetAllotments();
        return ended.warnings;
    }

    /** Changes the price of a lease; returns its price before. */
    public int setPrice(int lease, int price)
            throws IndexOutOfBoundsException, IllegalArgumentException {
        Lease changed = standingLease(lease);
        needArgument(price, 1, HIGHEST_PRICE);
        int before = changed.price;
        changed.price = price;
        forgetAllotments();
        return before;
    }

    /** Tells of a lease, also of one that has ended, what is asked for by number. */
    public int lease(int lease, int what) throws IndexOutOfBoundsException {
        Lease asked = leaseAt(lease);
        needIndex(what, LEASE_KINDS);
        switch (what) {
            case 0:
                return asked.building;
            case 1:
                return asked.tenant;
            case 2:
                return asked.first;
            case 3:
                return asked.last;
            case 4:
                return asked.cells;
            case 5:
                return asked.price;
            case 6:
                return asked.stands ? 1 : 0;
            case 7:
                return asked.warnings;
            case 8:
                return asked.paid;
            default:
                return shortHours(asked);
        }
    }

    /** Returns how many cells a lease gets in an hour as all is now. */
    public int gets(int lease, int hour) throws IndexOutOfBoundsException {
        leaseAt(lease);
        return allottedHour(hour).givenTo(lease);
    }

    /** Returns the cell of this index among those that a lease gets; -1 if there is none. */
    public int cellOf(int lease, int hour, int index) throws IndexOutOfBoundsException {
        Lease asked = leaseAt(lease);
        if (index < 0) {
            throw new IndexOutOfBoundsException("the index is less than 0");
        }
        Hour now = allottedHour(hour);
        if (index >= now.givenTo(lease)) {
            return NONE;
        }
        return now.cellOfShade(asked.building, now.askedBefore(asked, leases) + index);
    }

    // ---- days

    /** Lets days go by; returns how many leases were evicted in them. */
    public int pass(int days) throws IllegalArgumentException, IllegalStateException {
        needArgument(days, 1, MOST_DAYS);
        if (day + days > LAST_DAY) {
            throw new IllegalStateException("the days do not go so far");
        }
        int before = evicted;
        for (int gone = 0; gone < days; gone++) {
            for (int hour = 0; hour < hours.size(); hour++) {
                payFor(allottedHour(hour));
            }
            warn();
            evict();
            day++;
        }
        return evicted - before;
    }

    /** Tells of the registry what is asked for by number. */
    public int count(int what) throws IndexOutOfBoundsException {
        needIndex(what, COUNT_KINDS);
        switch (what) {
            case 0:
                return day;
            case 1:
                return square.standing();
            case 2:
                return standingLeases();
            case 3:
                return evicted;
            case 4:
                return paidByAll();
            default:
                return square.coveredCells();
        }
    }

    /** Returns what an owner got. */
    public int got(int owner) throws IndexOutOfBoundsException {
        needIndex(owner, gotByOwner.length);
        return gotByOwner[owner];
    }

    /** Returns what a tenant paid. */
    public int paid(int tenant) throws IndexOutOfBoundsException {
        needIndex(tenant, paidByTenant.length);
        return paidByTenant[tenant];
    }

    // ---- advice

    /** Returns the building with the most shade free for a new lease, or how much; -1 if none stands. */
    public int advise(int first, int last, int price, int what)
            throws IllegalArgumentException, IndexOutOfBoundsException {
        needArgument(last, 0, HOURS - 1);
        needArgument(first, 0, last);
        needArgument(price, 1, HIGHEST_PRICE);
        needIndex(what, ADVICE_KINDS);
        int best = NONE;
        int most = NONE;
        for (int number = 0; number < square.buildings.size(); number++) {
            if (square.buildings.get(number).stands) {
                int free = fewestFree(number, first, last, price);
                if (free > most) {
                    best = number;
                    most = free;
                }
            }
        }
        return what == 0 ? best : most;
    }

    /** Tells what a day would bring to the owner of a building, if this had another height. */
    public int wouldGet(int building, int height)
            throws IndexOutOfBoundsException, IllegalArgumentException {
        Building site = standingBuilding(building);
        needArgument(height, 1, TALLEST);
        int before = site.height;
        changeHeight(site, height);
        int income = incomeOf(site.owner);
        changeHeight(site, before);
        return income;
    }

    /** Returns the cells that leases get in all hours, divided by all that they have. */
    public double fulfilled() {
        int given = 0;
        int asked = 0;
        for (int hour = 0; hour < hours.size(); hour++) {
            given += allottedHour(hour).allGiven;
        }
        for (int i = 0; i < leases.size(); i++) {
            Lease lease = leases.get(i);
            asked += lease.stands ? lease.cells * lease.hourCount() : 0;
        }
        return asked == 0 ? 1.0 : (double) given / (double) asked;
    }

    /** Computes a checksum of all that the registry tells. */
    public long digest() {
        long d = 487;
        for (int what = 0; what < COUNT_KINDS; what++) {
            d = d * 31 + count(what);
        }
        for (int hour = 0; hour < hours.size(); hour++) {
            d = digestHour(d, allottedHour(hour));
        }
        for (int number = 0; number < square.buildings.size(); number++) {
            d = digestBuilding(d, number);
        }
        for (int number = 0; number < leases.size(); number++) {
            for (int what = 0; what < LEASE_KINDS; what++) {
                d = d * 31 + lease(number, what);
            }
        }
        for (int owner = 0; owner < gotByOwner.length; owner++) {
            d = d * 31 + gotByOwner[owner];
        }
        for (int tenant = 0; tenant < paidByTenant.length; tenant++) {
            d = d * 31 + paidByTenant[tenant];
        }
        return d;
    }

    // ---- what the calls have in common

    private static long digestHour(long before, Hour hour) {
        long d = before * 31 + hour.dx;
        d = d * 31 + hour.dy;
        d = d * 31 + hour.length;
        for (int what = 0; what < HOUR_KINDS; what++) {
            d = d * 31 + hour.figure(what);
        }
        return d;
    }

    private long digestBuilding(long before, int number) {
        long d = before;
        for (int what = 0; what < BUILDING_KINDS; what++) {
            d = d * 31 + building(number, what);
        }
        for (int hour = 0; hour < hours.size(); hour++) {
            d = d * 31 + area(number, hour);
        }
        return d;
    }

    private static void needIndex(int index, int size) {
        if (index < 0 || index >= size) {
            throw new IndexOutOfBoundsException("there is no such number");
        }
    }

    private static void needArgument(int value, int least, int most) {
        if (value < least || value > most) {
            throw new IllegalArgumentException("a value is out of its bounds");
        }
    }

    private Building buildingAt(int number) {
        needIndex(number, square.buildings.size());
        return square.buildings.get(number);
    }

    private Building standingBuilding(int number) {
        Building site = buildingAt(number);
        if (!site.stands) {
            throw new IndexOutOfBoundsException("the building is torn down");
        }
        return site;
    }

    private Lease leaseAt(int number) {
        needIndex(number, leases.size());
        return leases.get(number);
    }

    private Lease standingLease(int number) {
        Lease lease = leaseAt(number);
        if (!lease.stands) {
            throw new IndexOutOfBoundsException("the lease has ended");
        }
        return lease;
    }

    private Hour hourAt(int number) {
        needIndex(number, hours.size());
        return hours.get(number);
    }

    private Hour measuredHour(int number) {
        Hour hour = hourAt(number);
        if (!hour.measured) {
            hour.measure(square);
        }
        return hour;
    }

    private Hour allottedHour(int number) {
        Hour hour = hourAt(number);
        if (!hour.measured) {
            hour.measure(square);
        }
        if (!hour.allotted) {
            hour.allot(leases);
        }
        return hour;
    }

    private void forgetShades() {
        for (int i = 0; i < hours.size(); i++) {
            hours.get(i).forgetShade();
        }
    }

    private void forgetAllotments() {
        for (int i = 0; i < hours.size(); i++) {
            hours.get(i).allotted = false;
        }
    }

    private void changeHeight(Building site, int height) {
        site.height = height;
        forgetShades();
    }

    private int leasesOf(int building) {
        int found = 0;
        for (int i = 0; i < leases.size(); i++) {
            Lease lease = leases.get(i);
            if (lease.stands && lease.building == building) {
                found++;
            }
        }
        return found;
    }

    private int standingLeases() {
        int found = 0;
        for (int i = 0; i < leases.size(); i++) {
            if (leases.get(i).stands) {
                found++;
            }
        }
        return found;
    }

    private int paidByAll() {
        int sum = 0;
        for (int tenant = 0; tenant < paidByTenant.length; tenant++) {
            sum += paidByTenant[tenant];
        }
        return sum;
    }

    private int shortHours(Lease lease) {
        int found = 0;
        for (int hour = 0; hour < hours.size(); hour++) {
            if (allottedHour(hour).isShort(lease)) {
                found++;
            }
        }
        return found;
    }

    private void payFor(Hour hour) {
        for (int i = 0; i < leases.size(); i++) {
            Lease lease = leases.get(i);
            int amount = lease.price * hour.givenTo(i);
            int owner = square.ownerOf(lease.building);
            if (owner >= 0 && owner < gotByOwner.length) {
                gotByOwner[owner] += amount;
            }
            if (lease.tenant >= 0 && lease.tenant < paidByTenant.length) {
                paidByTenant[lease.tenant] += amount;
            }
            lease.paid += amount;
        }
    }

    private void warn() {
        for (int i = 0; i < leases.size(); i++) {
            Lease lease = leases.get(i);
            if (lease.stands) {
                boolean goneWithout = 2 * shortHours(lease) > lease.hourCount();
                lease.warnings = goneWithout ? lease.warnings + 1 : 0;
            }
        }
    }

    // Apart from warn(): a lease that ends would leave more to the later ones on a day that is over.
    private void evict() {
        for (int i = 0; i < leases.size(); i++) {
            Lease lease = leases.get(i);
            if (lease.stands && lease.warnings >= WARNINGS_TO_EVICT) {
                lease.stands = false;
                evicted++;
                forgetAllotments();
            }
        }
    }

    private int fewestFree(int building, int first, int last, int price) {
        int fewest = CELLS;
        for (int hour = first; hour <= last; hour++) {
            fewest = Math.min(fewest, freeIn(allottedHour(hour), building, price));
        }
        return fewest;
    }

    private int freeIn(Hour hour, int building, int price) {
        int free = hour.areaOf(building);
        for (int i = 0; i < leases.size(); i++) {
            Lease lease = leases.get(i);
            if (lease.building == building && lease.price >= price) {
                free -= hour.givenTo(i);
            }
        }
        return free;
    }

    private int incomeOf(int owner) {
        int income = 0;
        for (int number = 0; number < hours.size(); number++) {
            Hour hour = allottedHour(number);
            for (int i = 0; i < leases.size(); i++) {
                Lease lease = leases.get(i);
                if (square.ownerOf(lease.building) == owner) {
                    income += lease.price * hour.givenTo(i);
                }
            }
        }
        return income;
    }

    /** A building, which keeps its place, height and owner when it is torn down. */
    private static final class Building {
        final int number;
        final int x;
        final int y;
        final int wide;
        final int deep;
        final int owner;
        int height;
        boolean stands = true;

        Building(int number, int x, int y, int wide, int deep, int height, int owner) {
            this.number = number;
            this.x = x;
            this.y = y;
            this.wide = wide;
            this.deep = deep;
            this.height = height;
            this.owner = owner;
        }

        boolean holds(int column, int row) {
            return column >= x && column < x + wide && row >= y && row < y + deep;
        }
    }

    /** A lease, which keeps what it was when it has ended. */
    private static final class Lease {
        final int number;
        final int building;
        final int tenant;
        final int first;
        final int last;
        final int cells;
        int price;
        boolean stands = true;
        int warnings;
        int paid;

        Lease(int number, int building, int tenant, int first, int last, int cells, int price) {
            this.number = number;
            this.building = building;
            this.tenant = tenant;
            this.first = first;
            this.last = last;
            this.cells = cells;
            this.price = price;
        }

        int hourCount() {
            return last - first + 1;
        }

        boolean asksIn(int hour) {
            return stands && hour >= first && hour <= last;
        }

        boolean comesBefore(Lease other) {
            return price > other.price || price == other.price && number < other.number;
        }
    }

    /** All buildings, and the cells that those which stand cover. */
    private static final class Square {
        final ArrayList<Building> buildings = new ArrayList<>();
        private final boolean[] covered = new boolean[CELLS];

        boolean isCovered(int cell) {
            return cell >= 0 && cell < covered.length && covered[cell];
        }

        boolean isFree(Building site) {
            for (int y = site.y; y < site.y + site.deep; y++) {
                for (int x = site.x; x < site.x + site.wide; x++) {
                    if (isCovered(x + SIDE * y)) {
                        return false;
                    }
                }
            }
            return true;
        }

        void setCovered(Building site, boolean covers) {
            for (int y = site.y; y < site.y + site.deep; y++) {
                for (int x = site.x; x < site.x + site.wide; x++) {
                    int cell = x + SIDE * y;
                    if (cell >= 0 && cell < covered.length) {
                        covered[cell] = covers;
                    }
                }
            }
        }

        int ownerOf(int building) {
            if (building < 0 || building >= buildings.size()) {
                return NONE;
            }
            return buildings.get(building).owner;
        }

        int standing() {
            int found = 0;
            for (int i = 0; i < buildings.size(); i++) {
                if (buildings.get(i).stands) {
                    found++;
                }
            }
            return found;
        }

        int coveredCells() {
            int found = 0;
            for (int i = 0; i < buildings.size(); i++) {
                Building site = buildings.get(i);
                found += site.stands ? site.wide * site.deep : 0;
            }
            return found;
        }
    }

    /** An hour: its sun, and the shade and its allotment, both worked out when they are asked for. */
    private static final class Hour {
        final int number;
        int dx;
        int dy;
        int length;

        boolean measured;
        final int[] holder = new int[CELLS];
        final int[] layers = new int[CELLS];
        private final int[] steps;
        private final int[] areas = new int[MOST_BUILDINGS];
        private int shaded;
        private int overlapped;

        boolean allotted;
        private final int[] given = new int[MOST_LEASES];
        int allGiven;
        private int allShort;

        /** All hours may have the same steps: they matter only while one of them is measured. */
        Hour(int number, int[] steps) {
            this.number = number;
            this.steps = steps;
            if (number < 5) {
                dx = -1;
                length = 5 - number;
            } else if (number < 7) {
                dy = -1;
                length = 1;
            } else {
                dx = 1;
                length = number - 6;
            }
        }

        void forgetShade() {
            measured = false;
            allotted = false;
        }

        int figure(int what) {
            switch (what) {
                case 0:
                    return shaded;
                case 1:
                    return overlapped;
                case 2:
                    return allGiven;
                default:
                    return allShort;
            }
        }

        int areaOf(int building) {
            return building >= 0 && building < areas.length ? areas[building] : 0;
        }

        int givenTo(int lease) {
            return lease >= 0 && lease < given.length ? given[lease] : 0;
        }

        boolean isShort(Lease lease) {
            return lease.asksIn(number) && givenTo(lease.number) < lease.cells;
        }

        void measure(Square square) {
            for (int cell = 0; cell < holder.length; cell++) {
                holder[cell] = square.isCovered(cell) ? COVERED : NONE;
            }
            Arrays.fill(layers, 0);
            for (int i = 0; i < square.buildings.size(); i++) {
                Building site = square.buildings.get(i);
                if (site.stands) {
                    castFrom(site);
                }
            }
            sumUpShade();
            measured = true;
        }

        // Only the edge towards the shadow casts: the smallest k of a cell leads back to it,
        // and so a building lays at most one layer on a cell.
        private void castFrom(Building site) {
            for (int y = site.y; y < site.y + site.deep; y++) {
                for (int x = site.x; x < site.x + site.wide; x++) {
                    if (!site.holds(x + dx, y + dy)) {
                        castRay(site, x, y);
                    }
                }
            }
        }

        private void castRay(Building site, int x, int y) {
            int reach = length * site.height / 2;
            for (int k = 1; k <= reach; k++) {
                int column = x + k * dx;
                int row = y + k * dy;
                if (column < 0 || column >= SIDE || row < 0 || row >= SIDE) {
                    return;
                }
                int cell = column + SIDE * row;
                if (holder[cell] == COVERED) {
                    continue;
                }
                layers[cell]++;
                if (layers[cell] == 1 || k < steps[cell]) {
                    holder[cell] = site.number;
                    steps[cell] = k;
                }
            }
        }

        private void sumUpShade() {
            Arrays.fill(areas, 0);
            shaded = 0;
            overlapped = 0;
            for (int cell = 0; cell < holder.length; cell++) {
                int building = holder[cell];
                if (building >= 0 && building < areas.length) {
                    areas[building]++;
                    shaded++;
                    overlapped += layers[cell] > 1 ? 1 : 0;
                }
            }
        }

        int cellOfShade(int building, int index) {
            int before = 0;
            for (int cell = 0; cell < holder.length; cell++) {
                if (holder[cell] == building) {
                    if (before == index) {
                        return cell;
                    }
                    before++;
                }
            }
            return NONE;
        }

        void allot(ArrayList<Lease> leases) {
            allGiven = 0;
            allShort = 0;
            for (int i = 0; i < leases.size() && i < given.length; i++) {
                Lease lease = leases.get(i);
                given[i] = 0;
                if (lease.asksIn(number)) {
                    int left = areaOf(lease.building) - askedBefore(lease, leases);
                    given[i] = Math.max(0, Math.min(lease.cells, left));
                    allShort += given[i] < lease.cells ? 1 : 0;
                }
                allGiven += given[i];
            }
            allotted = true;
        }

        // What was asked for, not what was given: they differ only where nothing is left.
        int askedBefore(Lease lease, ArrayList<Lease> leases) {
            int asked = 0;
            for (int i = 0; i < leases.size(); i++) {
                Lease other = leases.get(i);
                if (other.building == lease.building && other.asksIn(number) && other.comesBefore(lease)) {
                    asked += other.cells;
                }
            }
            return asked;
        }
    }
}
