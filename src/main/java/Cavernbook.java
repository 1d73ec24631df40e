import java.util.Arrays;
import java.util.NoSuchElementException;

/** The caves of a mountain, as ../shared/DOC.md promises them. */
public final class Cavernbook {
    private static final int MOST_STATIONS = 9;
    private static final int MOST_SHOTS = 24;
    private static final int MOST_JOINS = 8;
    private static final int MOST_CONDUITS = 12;
    private static final int MOST_PARTIES = 4;
    private static final int AXES = 3;
    private static final int UP = 2;
    private static final int LAST_DAY = 999;
    private static final int NEVER = LAST_DAY + 1;
    private static final int MOST = 999;
    private static final int LAST_RAIN_HOUR = 199;
    private static final int LAST_WATER_HOUR = 400;
    private static final int PLAN_HOURS = 50;
    private static final int ENTRANCE = 0;
    private static final int NONE = -1;
    private static final long SIGN_BIT = 1L << 63;

    private final Cave cave;
    private final Places places;
    private final Places trial;
    private final Streams streams;
    private final Floods floods;
    private final Planner planner;
    private final Party[] parties;
    private int partyCount;

    public Cavernbook() {
        cave = new Cave();
        places = new Places(cave);
        trial = new Places(cave);
        streams = new Streams();
        floods = new Floods();
        planner = new Planner(cave, floods);
        parties = new Party[MOST_PARTIES];
        for (int i = 0; i < MOST_PARTIES; i++) {
            parties[i] = new Party();
        }
    }

    // ---- stations and shots

    public int station() throws IllegalStateException {
        if (cave.stationCount >= MOST_STATIONS) {
            throw new IllegalStateException("there are 9 stations");
        }
        cave.stationCount++;
        return cave.stationCount - 1;
    }

    public int shot(int from, int to, int day, int east, int north, int up, int length, int weight)
            throws IndexOutOfBoundsException, IllegalArgumentException, IllegalStateException {
        needStation(from);
        needStation(to);
        needTwo(from, to);
        needDay(day);
        needRange(east, -MOST, MOST);
        needRange(north, -MOST, MOST);
        needRange(up, -MOST, MOST);
        needRange(length, 1, MOST);
        needRange(weight, 1, 4);
        if (cave.shotCount >= MOST_SHOTS) {
            throw new IllegalStateException("there are 24 shots");
        }
        Shot told = cave.shots[cave.shotCount];
        told.from = from;
        told.to = to;
        told.day = day;
        told.steps[0] = east;
        told.steps[1] = north;
        told.steps[UP] = up;
        told.span = length;
        told.weight = weight;
        cave.shotCount++;
        return cave.shotCount - 1;
    }

    public boolean setAside(int shot, int day) throws IndexOutOfBoundsException, IllegalArgumentException {
        needShot(shot);
        needDay(day);
        Shot told = cave.shots[shot];
        boolean before = told.isAside();
        told.asideDay = day;
        return before;
    }

    public boolean join(int station, int other, int day)
            throws IndexOutOfBoundsException, IllegalArgumentException, IllegalStateException {
        needStation(station);
        needStation(other);
        needTwo(station, other);
        needDay(day);
        if (cave.joins.told >= MOST_JOINS) {
            throw new IllegalStateException("it was told 8 times");
        }
        cave.joins.mergeAsOf(day);
        boolean two = cave.joins.lowest[station] != cave.joins.lowest[other];
        cave.joins.add(station, other, day);
        return two;
    }

    public int oneWith(int station, int day) throws IndexOutOfBoundsException, IllegalArgumentException {
        needStation(station);
        needDay(day);
        cave.joins.mergeAsOf(day);
        return cave.joins.lowest[station];
    }

    // ---- places

    public boolean isHung(int station, int day) throws IndexOutOfBoundsException, IllegalArgumentException {
        needStation(station);
        needDay(day);
        places.hang(day, NONE);
        return places.holds(station);
    }

    public long top(int station, int axis, int day)
            throws IndexOutOfBoundsException, IllegalArgumentException, NoSuchElementException {
        weighFor(station, axis, day);
        return places.topOf(station, axis) / places.divisorOf(station, axis);
    }

    public long bottom(int station, int axis, int day)
            throws IndexOutOfBoundsException, IllegalArgumentException, NoSuchElementException {
        weighFor(station, axis, day);
        return places.bottom / places.divisorOf(station, axis);
    }

    public int loops(int day) throws IllegalArgumentException {
        needDay(day);
        places.hang(day, NONE);
        return places.usedCount - places.unknowns();
    }

    public long fault(int shot, int day)
            throws IndexOutOfBoundsException, IllegalArgumentException, NoSuchElementException {
        needShot(shot);
        needDay(day);
        places.hang(day, NONE);
        if (!places.used[shot]) {
            throw new NoSuchElementException("the shot is not weighed on this day");
        }
        places.weigh(false);
        return places.faultOf(shot);
    }

    public long allFaults(int day) throws IllegalArgumentException {
        needDay(day);
        places.hang(day, NONE);
        places.weigh(false);
        return flooredTimes(places.sumTop(), 1000, places.bottom);
    }

    public int blunder(int day) throws IllegalArgumentException, NoSuchElementException {
        needDay(day);
        places.hang(day, NONE);
        places.weigh(false);
        int found = findBlunder(day);
        if (found == NONE) {
            throw new NoSuchElementException("there is no blunder");
        }
        return found;
    }

    // ---- figures of a day

    public int length(int day) throws IllegalArgumentException {
        needDay(day);
        places.hang(day, NONE);
        int sum = 0;
        for (int i = 0; i < cave.shotCount; i++) {
            if (places.used[i]) {
                sum += cave.shots[i].span;
            }
        }
        return sum;
    }

    public long depth(int day) throws IllegalArgumentException {
        needDay(day);
        places.hang(day, NONE);
        places.weigh(false);
        return flooredTimes(places.topSpread(UP), 100, places.bottom);
    }

    // ---- water

    public int setHeight(int station, int height)
            throws IndexOutOfBoundsException, IllegalArgumentException, UnsupportedOperationException {
        needStation(station);
        needRange(height, 0, MOST);
        if (!streams.wouldFlow(station, height)) {
            throw new UnsupportedOperationException("a conduit would not lead to a lesser height");
        }
        int before = streams.heights[station];
        streams.heights[station] = height;
        return before;
    }

    public int conduit(int from, int to, int minutes, int hundredths)
            throws IndexOutOfBoundsException, IllegalArgumentException, UnsupportedOperationException,
            IllegalStateException {
        needStation(from);
        needStation(to);
        needRange(minutes, 1, 99);
        needRange(hundredths, 1, 100);
        if (streams.heights[to] >= streams.heights[from]) {
            throw new UnsupportedOperationException("the height of the other station is not less");
        }
        if (streams.hundredthsFrom(from) + hundredths > 100) {
            throw new UnsupportedOperationException("the conduits would take more than all");
        }
        if (streams.conduitCount >= MOST_CONDUITS) {
            throw new IllegalStateException("there are 12 conduits");
        }
        streams.addConduit(from, to, minutes, hundredths);
        return streams.conduitCount;
    }

    public int trace(int station, int amount) throws IndexOutOfBoundsException, IllegalArgumentException {
        needStation(station);
        needRange(amount, 1, 100000);
        streams.putDye(station, amount);
        int count = 0;
        for (int i = 0; i < cave.stationCount; i++) {
            if (streams.peakOf(i) != NONE) {
                count++;
            }
        }
        return count;
    }

    public int traced(int station, int minute) throws IndexOutOfBoundsException, IllegalArgumentException {
        needStation(station);
        if (minute < 0) {
            throw new IllegalArgumentException("the minute is less than 0");
        }
        return streams.comesOut(station, minute);
    }

    public int peak(int station) throws IndexOutOfBoundsException, NoSuchElementException {
        needStation(station);
        int minute = streams.peakOf(station);
        if (minute == NONE) {
            throw new NoSuchElementException("nothing comes out there");
        }
        return minute;
    }

    // ---- floods

    public int rain(int hour, int rain) throws IllegalArgumentException {
        needRange(hour, 0, LAST_RAIN_HOUR);
        needRange(rain, 0, 99);
        int before = floods.fallen[hour];
        floods.fallen[hour] = rain;
        floods.standFrom(hour);
        return before;
    }

    public int water(int hour) throws IllegalArgumentException {
        needRange(hour, 0, LAST_WATER_HOUR);
        return floods.standing[hour];
    }

    public int sump(int shot, int level) throws IndexOutOfBoundsException, IllegalArgumentException {
        needShot(shot);
        needRange(level, 0, MOST);
        int before = cave.shots[shot].level;
        cave.shots[shot].level = level;
        return before;
    }

    public boolean isClosed(int shot, int hour) throws IndexOutOfBoundsException, IllegalArgumentException {
        needShot(shot);
        needRange(hour, 0, LAST_WATER_HOUR);
        return floods.closes(cave.shots[shot], hour);
    }

    // ---- parties

    public int party(int station) throws IndexOutOfBoundsException, IllegalStateException {
        needStation(station);
        if (partyCount >= MOST_PARTIES) {
            throw new IllegalStateException("there are 4 parties");
        }
        parties[partyCount].place = station;
        partyCount++;
        return partyCount - 1;
    }

    public int tell(int party, int shot) throws IndexOutOfBoundsException {
        needParty(party);
        needShot(shot);
        parties[party].learn(shot);
        return Integer.bitCount(parties[party].known);
    }

    public boolean knows(int party, int shot) throws IndexOutOfBoundsException {
        needParty(party);
        needShot(shot);
        return parties[party].hasLearnt(shot);
    }

    public int go(int party, int shot)
            throws IndexOutOfBoundsException, UnsupportedOperationException, IllegalStateException {
        needParty(party);
        needShot(shot);
        Party who = parties[party];
        Shot way = cave.shots[shot];
        cave.joins.mergeAsOf(LAST_DAY);
        int end = cave.otherEnd(way, cave.joins.lowest[who.place]);
        if (end == NONE) {
            throw new UnsupportedOperationException("the shot does not lead from there");
        }
        if (!floods.lets(way, who.hour)) {
            throw new UnsupportedOperationException("the shot cannot be gone in this hour");
        }
        if (who.hour >= LAST_RAIN_HOUR) {
            throw new IllegalStateException("the hour of the party is 199");
        }
        who.place = end;
        who.hour++;
        who.learn(shot);
        return end;
    }

    public int pause(int party, int hours) throws IndexOutOfBoundsException, IllegalArgumentException {
        needParty(party);
        needRange(hours, 1, 48);
        needRange(parties[party].hour + hours, 0, LAST_RAIN_HOUR);
        parties[party].hour += hours;
        return parties[party].hour;
    }

    public int placeOf(int party) throws IndexOutOfBoundsException {
        needParty(party);
        cave.joins.mergeAsOf(LAST_DAY);
        return cave.joins.lowest[parties[party].place];
    }

    public int hourOf(int party) throws IndexOutOfBoundsException {
        needParty(party);
        return parties[party].hour;
    }

    public int plan(int party) throws IndexOutOfBoundsException, NoSuchElementException {
        drawFor(party);
        return parties[party].hour + planner.planned;
    }

    public int planAt(int party, int index)
            throws IndexOutOfBoundsException, NoSuchElementException, IllegalArgumentException {
        drawFor(party);
        if (index < 0 || index >= planner.planned) {
            throw new IllegalArgumentException("the plan has no such hour");
        }
        return planner.steps[index];
    }

    public int lastChance(int party) throws IndexOutOfBoundsException, NoSuchElementException {
        drawFor(party);
        return parties[party].hour + planner.latestStart();
    }

    // ---- sums over all

    public int stations() {
        return cave.stationCount;
    }

    public int shots() {
        return cave.shotCount;
    }

    public long allSteps() {
        long sum = 0;
        for (int i = 0; i < cave.shotCount; i++) {
            for (int axis = 0; axis < AXES; axis++) {
                sum += cave.shots[i].steps[axis];
            }
        }
        return sum;
    }

    public float hungShare(int day) throws IllegalArgumentException, ArithmeticException {
        needDay(day);
        if (cave.stationCount == 0) {
            throw new ArithmeticException("there are no stations");
        }
        places.hang(day, NONE);
        return (float) places.hungCount / (float) places.stationsApart();
    }

    public double meanRain() throws ArithmeticException {
        int sum = 0;
        int hours = 0;
        for (int hour = 0; hour <= LAST_RAIN_HOUR; hour++) {
            sum += floods.fallen[hour];
            hours += floods.fallen[hour] > 0 ? 1 : 0;
        }
        if (hours == 0) {
            throw new ArithmeticException("there are no hours with rain");
        }
        return (double) sum / (double) hours;
    }

    public boolean isSound(int day) throws IllegalArgumentException {
        needDay(day);
        places.hang(day, NONE);
        places.weigh(false);
        trial.hang(day, NONE);
        trial.weigh(true);
        if (!places.agreesWith(trial)) {
            return false;
        }
        for (int i = 0; i < partyCount; i++) {
            planner.draw(parties[i]);
            if (planner.leadsThroughWater(parties[i])) {
                return false;
            }
        }
        return true;
    }

    // ---- what a call needs

    private void needStation(int number) {
        if (number < 0 || number >= cave.stationCount) {
            throw new IndexOutOfBoundsException("there is no such station");
        }
    }

    private void needShot(int number) {
        if (number < 0 || number >= cave.shotCount) {
            throw new IndexOutOfBoundsException("there is no such shot");
        }
    }

    private void needParty(int number) {
        if (number < 0 || number >= partyCount) {
            throw new IndexOutOfBoundsException("there is no such party");
        }
    }

    private static void needTwo(int one, int other) {
        if (one == other) {
            throw new IllegalArgumentException("both are the same");
        }
    }

    private static void needDay(int day) {
        if (day < 0 || day > LAST_DAY) {
            throw new IllegalArgumentException("the day is not 0 to 999");
        }
    }

    private static void needRange(int number, int least, int greatest) {
        if (number < least || number > greatest) {
            throw new IllegalArgumentException("a number is out of range");
        }
    }

    // ---- steps of the calls

    private void weighFor(int station, int axis, int day) {
        needStation(station);
        if (axis < 0 || axis >= AXES) {
            throw new IndexOutOfBoundsException("there is no such axis");
        }
        needDay(day);
        places.hang(day, NONE);
        if (!places.holds(station)) {
            throw new NoSuchElementException("the station is not hung");
        }
        places.weigh(false);
    }

    private int findBlunder(int day) {
        long leastTop = places.sumTop();
        long leastBottom = places.bottom;
        int found = NONE;
        for (int i = 0; i < cave.shotCount; i++) {
            if (!places.used[i]) {
                continue;
            }
            trial.hang(day, i);
            if (trial.hungCount != places.hungCount) {
                continue;
            }
            trial.weigh(false);
            if (isLess(trial.sumTop(), trial.bottom, leastTop, leastBottom)) {
                leastTop = trial.sumTop();
                leastBottom = trial.bottom;
                found = i;
            }
        }
        return found;
    }

    private void drawFor(int party) {
        needParty(party);
        planner.draw(parties[party]);
        if (planner.planned == NONE) {
            throw new NoSuchElementException("the party has no plan");
        }
    }

    // ---- exact numbers

    /** Rounds top times factor by bottom down; split in two, as the product could pass a long. */
    private static long flooredTimes(long top, long factor, long bottom) {
        if (bottom < 1) {
            return 0;
        }
        return top / bottom * factor + top % bottom * factor / bottom;
    }

    /** Whether the fraction top by bottom is less than the other one, none of the numbers below 0. */
    private static boolean isLess(long top, long bottom, long otherTop, long otherBottom) {
        long high = highOf(top, otherBottom);
        long otherHigh = highOf(otherTop, bottom);
        if (high != otherHigh) {
            return high < otherHigh;
        }
        return isLessUnsigned(top * otherBottom, otherTop * bottom);
    }

    private static boolean isLessUnsigned(long a, long b) {
        return a + SIGN_BIT < b + SIGN_BIT;
    }

    /** The upper 64 of the 128 bits of a product, of which a times b are the lower ones. */
    private static long highOf(long a, long b) {
        long mask = 0xFFFFFFFFL;
        long upperA = a >> 32;
        long lowerA = a & mask;
        long upperB = b >> 32;
        long lowerB = b & mask;
        long middle = upperA * lowerB + (lowerA * lowerB >>> 32);
        long other = (middle & mask) + lowerA * upperB;
        return upperA * upperB + (middle >> 32) + (other >> 32);
    }

    private static long commonDivisor(long a, long b) {
        long greater = Math.max(a, b);
        long lesser = Math.min(a, b);
        for (int turn = 0; turn < 200 && lesser > 0; turn++) {
            long rest = greater % lesser;
            greater = lesser;
            lesser = rest;
        }
        return Math.max(greater, 1);
    }

    /** A shot, as it was told; the rows of a cave hold empty ones ahead of that. */
    private static final class Shot {
        int from;
        int to;
        int day;
        int span;
        int weight;
        int asideDay;
        int level;
        final int[] steps;

        Shot() {
            asideDay = NEVER;
            steps = new int[AXES];
        }

        boolean countsOn(int today) {
            return day <= today && today < asideDay;
        }

        boolean isAside() {
            return asideDay != NEVER;
        }
    }

    /** Which stations were told to be one, and from which day on. */
    private static final class Joins {
        private final int[] one;
        private final int[] other;
        private final int[] since;
        final int[] lowest;
        int told;

        Joins() {
            one = new int[MOST_JOINS];
            other = new int[MOST_JOINS];
            since = new int[MOST_JOINS];
            lowest = new int[MOST_STATIONS];
        }

        void add(int station, int with, int day) {
            if (told < MOST_JOINS) {
                one[told] = station;
                other[told] = with;
                since[told] = day;
                told++;
            }
        }

        /** Writes into lowest, for each station, the lowest one that is one with it on a day. */
        void mergeAsOf(int day) {
            for (int i = 0; i < MOST_STATIONS; i++) {
                lowest[i] = i;
            }
            for (int i = 0; i < told; i++) {
                if (since[i] <= day) {
                    merge(lowest[one[i]], lowest[other[i]]);
                }
            }
        }

        private void merge(int a, int b) {
            int kept = Math.min(a, b);
            int given = Math.max(a, b);
            for (int i = 0; i < MOST_STATIONS; i++) {
                if (lowest[i] == given) {
                    lowest[i] = kept;
                }
            }
        }
    }

    /** What was told of stations and shots. */
    private static final class Cave {
        final Shot[] shots;
        final Joins joins;
        int stationCount;
        int shotCount;

        Cave() {
            joins = new Joins();
            shots = new Shot[MOST_SHOTS];
            for (int i = 0; i < MOST_SHOTS; i++) {
                shots[i] = new Shot();
            }
        }

        /** Where a shot leads from a place, by the joins merged last, or NONE if not from there. */
        int otherEnd(Shot way, int place) {
            int from = joins.lowest[way.from];
            int to = joins.lowest[way.to];
            if (from == place) {
                return to;
            }
            return to == place ? from : NONE;
        }
    }

    /**
     * The places of a day. All places have one bottom in common, which is the number of spanning trees by
     * weight, at most 2^34; so tops stay below 2^47 and the bottom times the least sum below 2^62.
     */
    private static final class Places {
        private final Cave cave;
        private final int[] lowest;
        private final boolean[] hung;
        private final int[] rowOf;
        private final long[][] net;
        private final long[][] tops;
        private final Wide dividend;
        private final Wide divisor;
        private int evenBits;
        private long oddInverse;
        final boolean[] used;
        int hungCount;
        int usedCount;
        long bottom;

        Places(Cave told) {
            cave = told;
            lowest = new int[MOST_STATIONS];
            hung = new boolean[MOST_STATIONS];
            rowOf = new int[MOST_STATIONS];
            net = new long[MOST_STATIONS - 1][MOST_STATIONS - 1 + AXES];
            tops = new long[MOST_STATIONS][AXES];
            dividend = new Wide();
            divisor = new Wide();
            used = new boolean[MOST_SHOTS];
            bottom = 1;
        }

        /** Finds the hung stations and the shots between them, as if there were not the one left out. */
        void hang(int day, int leftOut) {
            cave.joins.mergeAsOf(day);
            for (int i = 0; i < MOST_STATIONS; i++) {
                lowest[i] = cave.joins.lowest[i];
                hung[i] = false;
            }
            for (int i = 0; i < MOST_SHOTS; i++) {
                used[i] = i < cave.shotCount && i != leftOut && cave.shots[i].countsOn(day);
            }
            hungCount = 0;
            if (cave.stationCount > 0) {
                hung[ENTRANCE] = true;
                hungCount = 1;
            }
            boolean grew = true;
            for (int turn = 0; turn < MOST_STATIONS && grew; turn++) {
                grew = hangMore();
            }
            keepUseful();
        }

        private boolean hangMore() {
            boolean grew = false;
            for (int i = 0; i < cave.shotCount; i++) {
                int from = lowest[cave.shots[i].from];
                int to = lowest[cave.shots[i].to];
                if (used[i] && hung[from] != hung[to]) {
                    hung[from] = true;
                    hung[to] = true;
                    hungCount++;
                    grew = true;
                }
            }
            return grew;
        }

        private void keepUseful() {
            usedCount = 0;
            for (int i = 0; i < cave.shotCount; i++) {
                int from = lowest[cave.shots[i].from];
                int to = lowest[cave.shots[i].to];
                used[i] = used[i] && from != to && hung[from];
                usedCount += used[i] ? 1 : 0;
            }
        }

        boolean holds(int station) {
            return hung[lowest[station]];
        }

        /** How many hung stations there are but the entrance. */
        int unknowns() {
            return Math.max(hungCount - 1, 0);
        }

        int stationsApart() {
            int count = 0;
            for (int i = 0; i < cave.stationCount; i++) {
                count += lowest[i] == i ? 1 : 0;
            }
            return count;
        }

        /** Finds the places of what is hung, eliminating from the first station on or from the last one. */
        void weigh(boolean fromLast) {
            giveRows(fromLast);
            fillNet();
            eliminate();
            for (int i = 0; i < MOST_STATIONS; i++) {
                for (int axis = 0; axis < AXES; axis++) {
                    tops[i][axis] = rowOf[i] == NONE ? 0 : net[rowOf[i]][MOST_STATIONS - 1 + axis];
                }
            }
        }

        private void giveRows(boolean fromLast) {
            int row = 0;
            for (int i = 0; i < MOST_STATIONS; i++) {
                int station = fromLast ? MOST_STATIONS - 1 - i : i;
                rowOf[station] = NONE;
                if (station != ENTRANCE && hung[station] && row < MOST_STATIONS - 1) {
                    rowOf[station] = row;
                    row++;
                }
            }
        }

        private void fillNet() {
            for (int i = 0; i < MOST_STATIONS - 1; i++) {
                Arrays.fill(net[i], 0);
            }
            for (int i = 0; i < cave.shotCount; i++) {
                if (used[i]) {
                    addShot(cave.shots[i]);
                }
            }
        }

        private void addShot(Shot way) {
            int from = rowOf[lowest[way.from]];
            int to = rowOf[lowest[way.to]];
            addEnd(way, from, -way.weight);
            addEnd(way, to, way.weight);
            if (from != NONE && to != NONE) {
                net[from][to] -= way.weight;
                net[to][from] -= way.weight;
            }
        }

        private void addEnd(Shot way, int row, int pull) {
            if (row == NONE) {
                return;
            }
            net[row][row] += way.weight;
            for (int axis = 0; axis < AXES; axis++) {
                net[row][MOST_STATIONS - 1 + axis] += (long) pull * way.steps[axis];
            }
        }

        /**
         * Each step divides by the pivot before it, which leaves no rest, as all that stands in the net are
         * minors of what stood there at first; the last pivot is the bottom of all places.
         */
        private void eliminate() {
            int rows = unknowns();
            long before = 1;
            for (int pivot = 0; pivot < rows; pivot++) {
                setDivisor(before);
                for (int row = 0; row < rows; row++) {
                    if (row != pivot) {
                        clearPivotFrom(row, pivot, rows);
                    }
                }
                before = net[pivot][pivot];
            }
            bottom = Math.max(before, 1);
        }

        private void clearPivotFrom(int row, int pivot, int rows) {
            long ahead = net[pivot][pivot];
            long out = net[row][pivot];
            for (int column = pivot + 1; column < MOST_STATIONS - 1 + AXES; column++) {
                if (column < rows || column >= MOST_STATIONS - 1) {
                    net[row][column] = crossed(ahead, net[row][column], out, net[pivot][column]);
                }
            }
            net[row][pivot] = 0;
        }

        /** Prepares divisions that leave no rest: an odd number has an inverse by which 64 bits multiply. */
        private void setDivisor(long number) {
            long odd = number;
            evenBits = 0;
            while (evenBits < 63 && (odd & 1) == 0) {
                odd >>= 1;
                evenBits++;
            }
            oddInverse = odd;
            for (int turn = 0; turn < 5; turn++) {
                oddInverse *= 2 - odd * oddInverse;
            }
        }

        /** (a b - c d) by the divisor; the products have up to 128 bits, what is left of them 64. */
        private long crossed(long a, long b, long c, long d) {
            long more = a * b;
            long less = c * d;
            long low = more - less;
            if (evenBits > 0) {
                long high = highOf(a, b) - highOf(c, d) - (isLessUnsigned(more, less) ? 1 : 0);
                low = low >>> evenBits | high << 64 - evenBits;
            }
            return low * oddInverse;
        }

        long topOf(int station, int axis) {
            return tops[lowest[station]][axis];
        }

        long divisorOf(int station, int axis) {
            return commonDivisor(Math.abs(topOf(station, axis)), bottom);
        }

        /** The residual of a shot times the bottom. */
        private long residualTop(Shot way, int axis) {
            return way.steps[axis] * bottom - topOf(way.to, axis) + topOf(way.from, axis);
        }

        long faultOf(int shot) {
            dividend.clear();
            for (int axis = 0; axis < AXES; axis++) {
                long residual = Math.abs(residualTop(cave.shots[shot], axis));
                dividend.addProduct(residual * 1000, residual);
            }
            divisor.clear();
            divisor.addProduct(bottom, bottom);
            return dividend.takeQuotient(divisor);
        }

        /**
         * The least sum times the bottom. Where the sum is least, residuals weigh nothing against places, so
         * the square of a residual can be the residual times the step: one factor less that is large.
         */
        long sumTop() {
            long sum = 0;
            for (int i = 0; i < cave.shotCount; i++) {
                for (int axis = 0; axis < AXES && used[i]; axis++) {
                    Shot way = cave.shots[i];
                    sum += (long) way.weight * way.steps[axis] * residualTop(way, axis);
                }
            }
            return sum;
        }

        /** The greatest place along an axis less the least one, times the bottom. */
        long topSpread(int axis) {
            long greatest = 0;
            long least = 0;
            for (int i = 0; i < MOST_STATIONS; i++) {
                greatest = Math.max(greatest, tops[i][axis]);
                least = Math.min(least, tops[i][axis]);
            }
            return greatest - least;
        }

        boolean agreesWith(Places other) {
            for (int i = 0; i < cave.stationCount; i++) {
                for (int axis = 0; axis < AXES; axis++) {
                    long mine = divisorOf(i, axis);
                    long its = other.divisorOf(i, axis);
                    if (topOf(i, axis) / mine != other.topOf(i, axis) / its || bottom / mine != other.bottom / its) {
                        return false;
                    }
                }
            }
            return true;
        }
    }

    /** A number of 128 bits, from 0, for the squares that pass a long. */
    private static final class Wide {
        private long high;
        private long low;

        Wide() {
            high = 0;
            low = 0;
        }

        void clear() {
            high = 0;
            low = 0;
        }

        void addProduct(long a, long b) {
            long added = a * b;
            low += added;
            high += highOf(a, b) + (isLessUnsigned(low, added) ? 1 : 0);
        }

        /** Divides by a divisor, rounding down; leaves the rest. Quotients here stay far below 2^60. */
        long takeQuotient(Wide by) {
            int doublings = 0;
            while (doublings < 60 && !isLessThan(by)) {
                by.twice();
                doublings++;
            }
            long quotient = 0;
            for (int i = 0; i < doublings; i++) {
                by.half();
                quotient <<= 1;
                if (!isLessThan(by)) {
                    subtract(by);
                    quotient++;
                }
            }
            return quotient;
        }

        private boolean isLessThan(Wide other) {
            return high != other.high ? high < other.high : isLessUnsigned(low, other.low);
        }

        private void subtract(Wide other) {
            high -= other.high + (isLessUnsigned(low, other.low) ? 1 : 0);
            low -= other.low;
        }

        private void twice() {
            high = high << 1 | low >>> 63;
            low <<= 1;
        }

        private void half() {
            low = low >>> 1 | high << 63;
            high >>>= 1;
        }
    }

    /** Heights, conduits, and what came out by the last trace. */
    private static final class Streams {
        /** One more than 8 conduits of 99 minutes, one behind the other, can take. */
        private static final int MINUTES = (MOST_STATIONS - 1) * 99 + 1;

        private final int[] from;
        private final int[] to;
        private final int[] minutes;
        private final int[] hundredths;
        private final int[][] dye;
        private int lastMinute;
        final int[] heights;
        int conduitCount;

        Streams() {
            from = new int[MOST_CONDUITS];
            to = new int[MOST_CONDUITS];
            minutes = new int[MOST_CONDUITS];
            hundredths = new int[MOST_CONDUITS];
            dye = new int[MOST_STATIONS][MINUTES];
            heights = new int[MOST_STATIONS];
        }

        boolean wouldFlow(int station, int height) {
            for (int i = 0; i < conduitCount; i++) {
                int upper = from[i] == station ? height : heights[from[i]];
                int lower = to[i] == station ? height : heights[to[i]];
                if (lower >= upper) {
                    return false;
                }
            }
            return true;
        }

        int hundredthsFrom(int station) {
            int sum = 0;
            for (int i = 0; i < conduitCount; i++) {
                sum += from[i] == station ? hundredths[i] : 0;
            }
            return sum;
        }

        void addConduit(int upper, int lower, int time, int share) {
            if (conduitCount < MOST_CONDUITS) {
                from[conduitCount] = upper;
                to[conduitCount] = lower;
                minutes[conduitCount] = time;
                hundredths[conduitCount] = share;
                conduitCount++;
            }
        }

        /** Minute by minute: as each conduit takes one at least, what comes in a minute is all there by then. */
        void putDye(int station, int amount) {
            for (int i = 0; i < MOST_STATIONS; i++) {
                Arrays.fill(dye[i], 0);
            }
            dye[station][0] = amount;
            lastMinute = 0;
            for (int minute = 0; minute <= lastMinute && minute < MINUTES; minute++) {
                for (int i = 0; i < MOST_STATIONS; i++) {
                    if (dye[i][minute] > 0) {
                        flowOn(i, minute);
                    }
                }
            }
        }

        private void flowOn(int station, int minute) {
            int amount = dye[station][minute];
            for (int i = 0; i < conduitCount; i++) {
                int arrival = minute + minutes[i];
                if (from[i] == station && arrival < MINUTES) {
                    int taken = amount * hundredths[i] / 100;
                    dye[station][minute] -= taken;
                    dye[to[i]][arrival] += taken;
                    lastMinute = Math.max(lastMinute, arrival);
                }
            }
        }

        int comesOut(int station, int minute) {
            return minute < MINUTES ? dye[station][minute] : 0;
        }

        /** The peak of a station, or NONE if nothing comes out. */
        int peakOf(int station) {
            int peak = NONE;
            int most = 0;
            for (int minute = 0; minute <= lastMinute && minute < MINUTES; minute++) {
                if (dye[station][minute] > most) {
                    most = dye[station][minute];
                    peak = minute;
                }
            }
            return peak;
        }
    }

    /** The rain, and how the water stands by it. */
    private static final class Floods {
        final int[] fallen;
        final int[] standing;

        Floods() {
            fallen = new int[LAST_RAIN_HOUR + 1];
            standing = new int[LAST_WATER_HOUR + 1];
        }

        void standFrom(int hour) {
            for (int i = Math.max(hour, 0); i <= LAST_WATER_HOUR; i++) {
                int before = i > 0 ? standing[i - 1] : 0;
                standing[i] = before * 3 / 4 + (i <= LAST_RAIN_HOUR ? fallen[i] : 0);
            }
        }

        boolean closes(Shot way, int hour) {
            return way.level > 0 && hour >= 0 && hour <= LAST_WATER_HOUR && standing[hour] >= way.level;
        }

        boolean lets(Shot way, int hour) {
            return !way.isAside() && !closes(way, hour);
        }
    }

    /** Where a party is, and what it knows, a bit for each shot. */
    private static final class Party {
        int place;
        int hour;
        int known;

        Party() {
            place = ENTRANCE;
        }

        void learn(int shot) {
            known |= 1 << shot;
        }

        boolean hasLearnt(int shot) {
            return (known >> shot & 1) == 1;
        }
    }

    /** Draws the plan of one party, in hours from its own one on. */
    private static final class Planner {
        private final Cave cave;
        private final Floods floods;
        /** For each hour and place the hour in which the entrance can be reached from there. */
        private final int[][] arrival;
        private int start;
        final int[] steps;
        int planned;

        Planner(Cave told, Floods fallen) {
            cave = told;
            floods = fallen;
            arrival = new int[PLAN_HOURS + 1][MOST_STATIONS];
            steps = new int[PLAN_HOURS];
            planned = NONE;
        }

        void draw(Party party) {
            cave.joins.mergeAsOf(LAST_DAY);
            start = cave.joins.lowest[party.place];
            findArrivals(party);
            int goal = arrival[0][start];
            planned = goal > PLAN_HOURS ? NONE : goal;
            int place = start;
            for (int hour = 0; hour < planned && hour < PLAN_HOURS; hour++) {
                steps[hour] = firstStep(party, place, hour, goal);
                if (steps[hour] != NONE) {
                    place = cave.otherEnd(cave.shots[steps[hour]], place);
                }
            }
        }

        private void findArrivals(Party party) {
            Arrays.fill(arrival[PLAN_HOURS], PLAN_HOURS + 1);
            arrival[PLAN_HOURS][ENTRANCE] = PLAN_HOURS;
            for (int hour = PLAN_HOURS - 1; hour >= 0; hour--) {
                for (int i = 0; i < MOST_STATIONS; i++) {
                    arrival[hour][i] = arrival[hour + 1][i];
                }
                for (int i = 0; i < cave.shotCount; i++) {
                    if (canGo(party, i, hour)) {
                        int from = cave.joins.lowest[cave.shots[i].from];
                        int to = cave.joins.lowest[cave.shots[i].to];
                        arrival[hour][from] = Math.min(arrival[hour][from], arrival[hour + 1][to]);
                        arrival[hour][to] = Math.min(arrival[hour][to], arrival[hour + 1][from]);
                    }
                }
                arrival[hour][ENTRANCE] = hour;
            }
        }

        private boolean canGo(Party party, int shot, int hour) {
            return party.hasLearnt(shot) && floods.lets(cave.shots[shot], party.hour + hour);
        }

        /** The first step, waiting ahead of all, by which the entrance is reached in the goal's hour. */
        private int firstStep(Party party, int place, int hour, int goal) {
            if (arrival[hour + 1][place] == goal) {
                return NONE;
            }
            for (int i = 0; i < cave.shotCount; i++) {
                int end = cave.otherEnd(cave.shots[i], place);
                if (end != NONE && arrival[hour + 1][end] == goal && canGo(party, i, hour)) {
                    return i;
                }
            }
            return NONE;
        }

        int latestStart() {
            if (start == ENTRANCE) {
                return PLAN_HOURS;
            }
            int latest = 0;
            for (int hour = 0; hour < PLAN_HOURS; hour++) {
                latest = arrival[hour][start] <= PLAN_HOURS ? hour : latest;
            }
            return latest;
        }

        boolean leadsThroughWater(Party party) {
            for (int hour = 0; hour < planned && hour < PLAN_HOURS; hour++) {
                if (steps[hour] != NONE && floods.closes(cave.shots[steps[hour]], party.hour + hour)) {
                    return true;
                }
            }
            return false;
        }
    }
}
