import java.math.BigInteger;
import java.util.ArrayList;
import java.util.HashMap;
import java.util.HashSet;
import java.util.List;
import java.util.Map;
import java.util.NoSuchElementException;
import java.util.Set;
import java.util.TreeMap;

/** The document once more, as slowly and plainly as can be, to compare a Cavernbook with. */
final class Model {
    private static final class Fraction {
        static final Fraction ZERO = new Fraction(BigInteger.ZERO, BigInteger.ONE);
        final BigInteger top;
        final BigInteger bottom;

        Fraction(BigInteger t, BigInteger b) {
            BigInteger g = t.gcd(b);
            if (b.signum() < 0) {
                g = g.negate();
            }
            top = t.divide(g);
            bottom = b.divide(g);
        }

        static Fraction of(long n) {
            return new Fraction(BigInteger.valueOf(n), BigInteger.ONE);
        }

        Fraction plus(Fraction o) {
            return new Fraction(top.multiply(o.bottom).add(o.top.multiply(bottom)), bottom.multiply(o.bottom));
        }

        Fraction times(Fraction o) {
            return new Fraction(top.multiply(o.top), bottom.multiply(o.bottom));
        }

        Fraction minus(Fraction o) {
            return plus(o.times(of(-1)));
        }

        Fraction by(Fraction o) {
            return times(new Fraction(o.bottom, o.top));
        }

        int compare(Fraction o) {
            return top.multiply(o.bottom).compareTo(o.top.multiply(bottom));
        }

        long floor() {
            BigInteger[] parts = top.divideAndRemainder(bottom);
            return (parts[1].signum() < 0 ? parts[0].subtract(BigInteger.ONE) : parts[0]).longValueExact();
        }
    }

    private static final class Shot {
        int from;
        int to;
        int day;
        int[] steps;
        int length;
        int weight;
        Integer aside = null;
        int level = 0;
    }

    /** What a day looks like: the lowest of each, the hung ones, the shots between them, their places. */
    private final class Day {
        final int[] low = new int[count];
        final Set<Integer> hung = new HashSet<>();
        final List<Integer> between = new ArrayList<>();
        final Map<Integer, Fraction[]> places = new HashMap<>();

        Day(int day, int without) {
            for (int i = 0; i < count; i++) {
                low[i] = lowest(i, day);
            }
            List<Integer> counting = new ArrayList<>();
            for (int i = 0; i < shots.size(); i++) {
                Shot s = shots.get(i);
                if (i != without && s.day <= day && (s.aside == null || s.aside > day) && low[s.from] != low[s.to]) {
                    counting.add(i);
                }
            }
            if (count > 0) {
                spread(0, counting);
            }
            for (int i : counting) {
                if (hung.contains(low[shots.get(i).from])) {
                    between.add(i);
                }
            }
            solve();
        }

        private void spread(int place, List<Integer> counting) {
            if (!hung.add(place)) {
                return;
            }
            for (int i : counting) {
                Shot s = shots.get(i);
                if (low[s.from] == place) {
                    spread(low[s.to], counting);
                }
                if (low[s.to] == place) {
                    spread(low[s.from], counting);
                }
            }
        }

        private void solve() {
            List<Integer> unknown = new ArrayList<>(hung);
            unknown.remove((Integer) 0);
            int n = unknown.size();
            Fraction[][] m = new Fraction[n][n + 3];
            for (Fraction[] row : m) {
                java.util.Arrays.fill(row, Fraction.ZERO);
            }
            for (int i : between) {
                Shot s = shots.get(i);
                int[] ends = {unknown.indexOf(low[s.from]), unknown.indexOf(low[s.to])};
                for (int e = 0; e < 2; e++) {
                    if (ends[e] < 0) {
                        continue;
                    }
                    Fraction[] row = m[ends[e]];
                    row[ends[e]] = row[ends[e]].plus(Fraction.of(s.weight));
                    if (ends[1 - e] >= 0) {
                        row[ends[1 - e]] = row[ends[1 - e]].minus(Fraction.of(s.weight));
                    }
                    for (int a = 0; a < 3; a++) {
                        row[n + a] = row[n + a].plus(Fraction.of((e == 0 ? -1L : 1L) * s.weight * s.steps[a]));
                    }
                }
            }
            for (int p = 0; p < n; p++) {
                for (int r = 0; r < n; r++) {
                    if (r != p) {
                        Fraction f = m[r][p].by(m[p][p]);
                        for (int c = p; c < n + 3; c++) {
                            m[r][c] = m[r][c].minus(f.times(m[p][c]));
                        }
                    }
                }
            }
            places.put(0, new Fraction[] {Fraction.ZERO, Fraction.ZERO, Fraction.ZERO});
            for (int i = 0; i < n; i++) {
                Fraction[] place = new Fraction[3];
                for (int a = 0; a < 3; a++) {
                    place[a] = m[i][n + a].by(m[i][i]);
                }
                places.put(unknown.get(i), place);
            }
        }

        Fraction faultOf(int i) {
            Shot s = shots.get(i);
            Fraction sum = Fraction.ZERO;
            for (int a = 0; a < 3; a++) {
                Fraction r = Fraction.of(s.steps[a]).minus(places.get(low[s.to])[a]).plus(places.get(low[s.from])[a]);
                sum = sum.plus(r.times(r));
            }
            return sum;
        }

        Fraction sum() {
            Fraction sum = Fraction.ZERO;
            for (int i : between) {
                sum = sum.plus(faultOf(i).times(Fraction.of(shots.get(i).weight)));
            }
            return sum;
        }
    }

    private int count = 0;
    private final List<Shot> shots = new ArrayList<>();
    private final List<int[]> joins = new ArrayList<>();
    private final int[] heights = new int[9];
    private final List<int[]> conduits = new ArrayList<>();
    private final Map<Integer, TreeMap<Integer, Integer>> out = new HashMap<>();
    private final int[] rain = new int[200];
    /** How the water stands by the rain told so far; null where that is not reckoned yet. */
    private int[] standing = null;
    private final List<int[]> parties = new ArrayList<>();
    private final List<Set<Integer>> known = new ArrayList<>();

    private void station(int i) {
        if (i < 0 || i >= count) {
            throw new IndexOutOfBoundsException();
        }
    }

    private void known(int i) {
        if (i < 0 || i >= shots.size()) {
            throw new IndexOutOfBoundsException();
        }
    }

    private void there(int i) {
        if (i < 0 || i >= parties.size()) {
            throw new IndexOutOfBoundsException();
        }
    }

    private static void range(boolean ok) {
        if (!ok) {
            throw new IllegalArgumentException();
        }
    }

    private static void day(int day) {
        range(0 <= day && day <= 999);
    }

    private int lowest(int station, int day) {
        boolean[] one = new boolean[9];
        one[station] = true;
        boolean more = true;
        while (more) {
            more = false;
            for (int[] j : joins) {
                if (j[2] <= day && one[j[0]] != one[j[1]]) {
                    one[j[0]] = true;
                    one[j[1]] = true;
                    more = true;
                }
            }
        }
        int low = 0;
        while (!one[low]) {
            low++;
        }
        return low;
    }

    int station() {
        if (count == 9) {
            throw new IllegalStateException();
        }
        return count++;
    }

    int shot(int from, int to, int day, int east, int north, int up, int length, int weight) {
        station(from);
        station(to);
        range(from != to);
        day(day);
        range(east >= -999 && east <= 999 && north >= -999 && north <= 999 && up >= -999 && up <= 999);
        range(length >= 1 && length <= 999 && weight >= 1 && weight <= 4);
        if (shots.size() == 24) {
            throw new IllegalStateException();
        }
        Shot s = new Shot();
        s.from = from;
        s.to = to;
        s.day = day;
        s.steps = new int[] {east, north, up};
        s.length = length;
        s.weight = weight;
        shots.add(s);
        return shots.size() - 1;
    }

    boolean setAside(int shot, int day) {
        known(shot);
        day(day);
        boolean was = shots.get(shot).aside != null;
        shots.get(shot).aside = day;
        return was;
    }

    boolean join(int station, int other, int day) {
        station(station);
        station(other);
        range(station != other);
        day(day);
        if (joins.size() == 8) {
            throw new IllegalStateException();
        }
        boolean two = lowest(station, day) != lowest(other, day);
        joins.add(new int[] {station, other, day});
        return two;
    }

    int oneWith(int station, int day) {
        station(station);
        day(day);
        return lowest(station, day);
    }

    boolean isHung(int station, int day) {
        station(station);
        day(day);
        return new Day(day, -1).hung.contains(lowest(station, day));
    }

    private Fraction place(int station, int axis, int day) {
        station(station);
        if (axis < 0 || axis > 2) {
            throw new IndexOutOfBoundsException();
        }
        day(day);
        Day d = new Day(day, -1);
        if (!d.hung.contains(d.low[station])) {
            throw new NoSuchElementException();
        }
        return d.places.get(d.low[station])[axis];
    }

    long top(int station, int axis, int day) {
        return place(station, axis, day).top.longValueExact();
    }

    long bottom(int station, int axis, int day) {
        return place(station, axis, day).bottom.longValueExact();
    }

    int loops(int day) {
        day(day);
        Day d = new Day(day, -1);
        return count == 0 ? 0 : d.between.size() - (d.hung.size() - 1);
    }

    long fault(int shot, int day) {
        known(shot);
        day(day);
        Day d = new Day(day, -1);
        if (!d.between.contains(shot)) {
            throw new NoSuchElementException();
        }
        return d.faultOf(shot).times(Fraction.of(1000)).floor();
    }

    long allFaults(int day) {
        day(day);
        return new Day(day, -1).sum().times(Fraction.of(1000)).floor();
    }

    int blunder(int day) {
        day(day);
        Day all = new Day(day, -1);
        int found = -1;
        Fraction most = Fraction.ZERO;
        Fraction sum = all.sum();
        for (int i : all.between) {
            Day less = new Day(day, i);
            Fraction by = sum.minus(less.sum());
            if (less.hung.equals(all.hung) && by.compare(most) > 0) {
                most = by;
                found = i;
            }
        }
        if (found < 0) {
            throw new NoSuchElementException();
        }
        return found;
    }

    int length(int day) {
        day(day);
        int sum = 0;
        for (int i : new Day(day, -1).between) {
            sum += shots.get(i).length;
        }
        return sum;
    }

    long depth(int day) {
        day(day);
        Fraction least = Fraction.ZERO;
        Fraction greatest = Fraction.ZERO;
        for (Fraction[] place : new Day(day, -1).places.values()) {
            least = place[2].compare(least) < 0 ? place[2] : least;
            greatest = place[2].compare(greatest) > 0 ? place[2] : greatest;
        }
        return greatest.minus(least).times(Fraction.of(100)).floor();
    }

    int setHeight(int station, int height) {
        station(station);
        range(height >= 0 && height <= 999);
        int before = heights[station];
        heights[station] = height;
        for (int[] c : conduits) {
            if (heights[c[0]] <= heights[c[1]]) {
                heights[station] = before;
                throw new UnsupportedOperationException();
            }
        }
        return before;
    }

    int conduit(int from, int to, int minutes, int hundredths) {
        station(from);
        station(to);
        range(minutes >= 1 && minutes <= 99 && hundredths >= 1 && hundredths <= 100);
        int all = hundredths;
        for (int[] c : conduits) {
            all += c[0] == from ? c[3] : 0;
        }
        if (heights[to] >= heights[from] || all > 100) {
            throw new UnsupportedOperationException();
        }
        if (conduits.size() == 12) {
            throw new IllegalStateException();
        }
        conduits.add(new int[] {from, to, minutes, hundredths});
        return conduits.size();
    }

    /** Station by station from the highest one down: all that comes to one is known by then. */
    int trace(int station, int amount) {
        station(station);
        range(amount >= 1 && amount <= 100000);
        Map<Integer, TreeMap<Integer, Integer>> comes = new HashMap<>();
        List<Integer> down = new ArrayList<>();
        for (int i = 0; i < 9; i++) {
            comes.put(i, new TreeMap<>());
            down.add(i);
        }
        down.sort((a, b) -> heights[b] - heights[a]);
        comes.get(station).put(0, amount);
        out.clear();
        int some = 0;
        for (int s : down) {
            TreeMap<Integer, Integer> left = new TreeMap<>();
            for (Map.Entry<Integer, Integer> e : comes.get(s).entrySet()) {
                int rest = e.getValue();
                for (int[] c : conduits) {
                    if (c[0] == s) {
                        int part = e.getValue() * c[3] / 100;
                        rest -= part;
                        comes.get(c[1]).merge(e.getKey() + c[2], part, Integer::sum);
                    }
                }
                if (rest > 0) {
                    left.put(e.getKey(), rest);
                }
            }
            out.put(s, left);
            some += left.isEmpty() ? 0 : 1;
        }
        return some;
    }

    int traced(int station, int minute) {
        station(station);
        range(minute >= 0);
        return out.containsKey(station) ? out.get(station).getOrDefault(minute, 0) : 0;
    }

    int peak(int station) {
        station(station);
        int best = -1;
        int most = 0;
        if (out.containsKey(station)) {
            for (Map.Entry<Integer, Integer> e : out.get(station).entrySet()) {
                if (e.getValue() > most) {
                    most = e.getValue();
                    best = e.getKey();
                }
            }
        }
        if (best < 0) {
            throw new NoSuchElementException();
        }
        return best;
    }

    int rain(int hour, int amount) {
        range(hour >= 0 && hour <= 199 && amount >= 0 && amount <= 99);
        int before = rain[hour];
        rain[hour] = amount;
        standing = null;
        return before;
    }

    private int stands(int hour) {
        if (standing == null) {
            standing = new int[401];
            for (int h = 0; h <= 400; h++) {
                standing[h] = (h == 0 ? 0 : standing[h - 1] * 3 / 4) + (h < 200 ? rain[h] : 0);
            }
        }
        return standing[hour];
    }

    int water(int hour) {
        range(hour >= 0 && hour <= 400);
        return stands(hour);
    }

    int sump(int shot, int level) {
        known(shot);
        range(level >= 0 && level <= 999);
        int before = shots.get(shot).level;
        shots.get(shot).level = level;
        return before;
    }

    boolean isClosed(int shot, int hour) {
        known(shot);
        range(hour >= 0 && hour <= 400);
        return shots.get(shot).level != 0 && stands(hour) >= shots.get(shot).level;
    }

    int party(int station) {
        station(station);
        if (parties.size() == 4) {
            throw new IllegalStateException();
        }
        parties.add(new int[] {station, 0});
        known.add(new HashSet<>());
        return parties.size() - 1;
    }

    int tell(int party, int shot) {
        there(party);
        known(shot);
        known.get(party).add(shot);
        return known.get(party).size();
    }

    boolean knows(int party, int shot) {
        there(party);
        known(shot);
        return known.get(party).contains(shot);
    }

    /** Where a party would be behind a shot gone along in an hour, or -1. */
    private int behind(int shot, int place, int hour) {
        Shot s = shots.get(shot);
        int from = lowest(s.from, 999);
        int to = lowest(s.to, 999);
        if (s.aside != null || s.level > 0 && stands(hour) >= s.level || from != place && to != place) {
            return -1;
        }
        return from == place ? to : from;
    }

    int go(int party, int shot) {
        there(party);
        known(shot);
        int end = behind(shot, placeOf(party), hourOf(party));
        if (end < 0) {
            throw new UnsupportedOperationException();
        }
        if (hourOf(party) == 199) {
            throw new IllegalStateException();
        }
        parties.get(party)[0] = end;
        parties.get(party)[1]++;
        known.get(party).add(shot);
        return end;
    }

    int pause(int party, int hours) {
        there(party);
        range(hours >= 1 && hours <= 48 && parties.get(party)[1] + hours <= 199);
        return parties.get(party)[1] += hours;
    }

    int placeOf(int party) {
        there(party);
        return lowest(parties.get(party)[0], 999);
    }

    int hourOf(int party) {
        there(party);
        return parties.get(party)[1];
    }

    /** The first way, by the order of plans, from a place in an hour to the entrance in another one, or null. */
    private List<Integer> way(int party, int place, int hour, int until, Set<Integer> vain) {
        if (place == 0) {
            return new ArrayList<>();
        }
        if (hour == until || vain.contains(hour * 10 + place)) {
            return null;
        }
        for (int shot = -1; shot < shots.size(); shot++) {
            if (shot >= 0 && !known.get(party).contains(shot)) {
                continue;
            }
            int next = shot < 0 ? place : behind(shot, place, hour);
            List<Integer> rest = next < 0 ? null : way(party, next, hour + 1, until, vain);
            if (rest != null) {
                rest.add(0, shot);
                return rest;
            }
        }
        vain.add(hour * 10 + place);
        return null;
    }

    private List<Integer> drawn(int party) {
        int hour = hourOf(party);
        for (int until = hour; until <= hour + 50; until++) {
            List<Integer> way = way(party, placeOf(party), hour, until, new HashSet<>());
            if (way != null) {
                return way;
            }
        }
        throw new NoSuchElementException();
    }

    int plan(int party) {
        there(party);
        return hourOf(party) + drawn(party).size();
    }

    int planAt(int party, int index) {
        there(party);
        List<Integer> way = drawn(party);
        range(index >= 0 && index < way.size());
        return way.get(index);
    }

    int lastChance(int party) {
        there(party);
        drawn(party);
        int place = placeOf(party);
        int end = hourOf(party) + 50;
        if (place == 0) {
            return end;
        }
        for (int hour = end - 1;; hour--) {
            for (int shot : known.get(party)) {
                int next = behind(shot, place, hour);
                if (next >= 0 && way(party, next, hour + 1, end, new HashSet<>()) != null) {
                    return hour;
                }
            }
        }
    }

    int stations() {
        return count;
    }

    int shots() {
        return shots.size();
    }

    long allSteps() {
        long sum = 0;
        for (Shot s : shots) {
            sum += s.steps[0] + s.steps[1] + s.steps[2];
        }
        return sum;
    }

    float hungShare(int day) {
        day(day);
        if (count == 0) {
            throw new ArithmeticException();
        }
        Set<Integer> all = new HashSet<>();
        for (int i = 0; i < count; i++) {
            all.add(lowest(i, day));
        }
        return (float) new Day(day, -1).hung.size() / (float) all.size();
    }

    double meanRain() {
        int sum = 0;
        int hours = 0;
        for (int r : rain) {
            sum += r;
            hours += r == 0 ? 0 : 1;
        }
        if (hours == 0) {
            throw new ArithmeticException();
        }
        return (double) sum / (double) hours;
    }

    boolean isSound(int day) {
        day(day);
        return true;
    }
}
