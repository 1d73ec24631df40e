import java.util.Random;

/** Random runs of calls, each answer compared with that of the model; all 40 promises. */
public final class RandomTest {
    private static final int CALLS = 512;

    private final Random random;
    private final Cavernbook book = new Cavernbook();
    private final Model model = new Model();
    private final int run;
    private int asked = 0;
    /** How wide steps are, how many days there are, how often a number is a wrong one. */
    private final int steps;
    private final int days;
    private final int wrong;
    private final boolean heavy;

    private RandomTest(int number) {
        run = number;
        random = new Random(number);
        steps = random.nextBoolean() ? 999 : random.nextBoolean() ? 20 : 2;
        days = random.nextBoolean() ? 1000 : random.nextBoolean() ? 10 : 1;
        wrong = random.nextBoolean() ? 12 : 40;
        heavy = random.nextBoolean();
    }

    public static void main(String[] args) {
        int first = args.length > 0 ? Integer.parseInt(args[0]) : 0;
        int runs = args.length > 1 ? Integer.parseInt(args[1]) : 200;
        for (int i = first; i < first + runs; i++) {
            new RandomTest(i).play();
            new RandomTest(i).playDense();
            new RandomTest(i).playParties();
        }
        Checks.finish();
    }

    private void play() {
        int stations = random.nextInt(10);
        int shots = stations < 2 ? 0 : random.nextInt(25);
        for (int i = 0; i < stations; i++) {
            told();
        }
        for (int i = 0; i < shots; i++) {
            shot();
        }
        if (heavy) {
            slope();
        }
        for (int i = stations + shots; i < CALLS - 60; i++) {
            int kind = random.nextInt(100);
            if (kind < 3) {
                told();
            } else if (kind < 40) {
                tell(random.nextInt(12));
            } else {
                ask(random.nextInt(24));
            }
        }
        for (int i = 0; i < 60; i++) {
            ask(random.nextInt(24));
        }
    }

    /** As many spanning trees as can be, with steps as wide: the greatest numbers that places come to. */
    private void playDense() {
        for (int i = 0; i < 9; i++) {
            told();
        }
        int odd = random.nextInt(24);
        for (int i = 0; i < 24; i++) {
            int from = i % 9;
            int to = (from + 1 + i / 9 + (i >= 18 ? random.nextInt(2) : 0)) % 9;
            int weight = i == odd || random.nextInt(8) == 0 ? 3 : 4;
            int[] wide = {wide(i), wide(i), wide(i)};
            same("dense shot " + i, () -> book.shot(from, to, 0, wide[0], wide[1], wide[2], 1, weight),
                () -> model.shot(from, to, 0, wide[0], wide[1], wide[2], 1, weight));
        }
        for (int s = 1; s < 9; s++) {
            int station = s;
            same("dense top " + s, () -> book.top(station, station % 3, 0),
                () -> model.top(station, station % 3, 0));
            same("dense bottom " + s, () -> book.bottom(station, 0, 0), () -> model.bottom(station, 0, 0));
        }
        for (int i = 0; i < 24; i++) {
            int shot = i;
            same("dense fault " + i, () -> book.fault(shot, 0), () -> model.fault(shot, 0));
        }
        same("dense allFaults", () -> book.allFaults(0), () -> model.allFaults(0));
        same("dense blunder", () -> book.blunder(0), () -> model.blunder(0));
        same("dense depth", () -> book.depth(0), () -> model.depth(0));
        same("dense isSound", () -> book.isSound(0), () -> model.isSound(0));
    }

    /** Parties in a cave whose sumps close now and then, asked for every step of their plans. */
    private void playParties() {
        int count = 3 + random.nextInt(7);
        for (int i = 0; i < count; i++) {
            told();
        }
        for (int i = 0; i < 8 + random.nextInt(17); i++) {
            int from = i < count - 1 ? i : random.nextInt(count);
            int to = i < count - 1 ? i + 1 : (from + 1 + random.nextInt(count - 1)) % count;
            same("way " + from + " " + to, () -> book.shot(from, to, 0, 0, 0, 0, 1, 1),
                () -> model.shot(from, to, 0, 0, 0, 0, 1, 1));
        }
        int most = random.nextInt(100);
        for (int hour = 0; hour < 200; hour++) {
            if (random.nextInt(3) == 0 || hour == 199) {
                wet(hour, random.nextInt(most + 1));
            }
        }
        for (int i = 0; i < 4; i++) {
            int station = random.nextInt(count);
            same("party " + station, () -> book.party(station), () -> model.party(station));
        }
        for (int i = 0; i < 60; i++) {
            tell(i < 8 ? 7 : i < 40 ? 9 : random.nextInt(5) == 0 ? 1 : 9);
        }
        for (int i = 0; i < 40; i++) {
            int party = random.nextInt(4);
            askPlan(party);
            tell(random.nextInt(20) == 0 ? 2 : random.nextInt(10) == 0 ? 7 : 10);
            if (random.nextInt(2) == 0) {
                int hours = i < 30 ? 1 + random.nextInt(9) : 48;
                same("rest " + party + " " + hours, () -> book.pause(party, hours), () -> model.pause(party, hours));
            }
            int shot = random.nextInt(model.shots());
            same("go " + party + " " + shot, () -> book.go(party, shot), () -> model.go(party, shot));
        }
        ask(23);
    }

    private void wet(int hour, int rain) {
        same("rain " + hour + " " + rain, () -> book.rain(hour, rain), () -> model.rain(hour, rain));
    }

    private void askPlan(int party) {
        same("plan " + party, () -> book.plan(party), () -> model.plan(party));
        same("lastChance " + party, () -> book.lastChance(party), () -> model.lastChance(party));
        for (int i = 0; i < 51; i++) {
            int index = i;
            if (same("step " + party + " " + i, () -> book.planAt(party, index),
                () -> model.planAt(party, index)) instanceof String) {
                return;
            }
        }
    }

    /** 999 either way, in some runs always the same, in some less by little, so that nothing cancels out. */
    private int wide(int i) {
        int sign = run % 3 == 0 ? 1 : run % 3 == 1 ? i % 2 * 2 - 1 : random.nextInt(2) * 2 - 1;
        return sign * (999 - (run % 2 == 0 ? 0 : random.nextInt(9)));
    }

    /** Heights that fall with the number, and conduits along them. */
    private void slope() {
        for (int i = 0; i < 9; i++) {
            int station = i;
            same("setHeight " + station, () -> book.setHeight(station, 900 - 100 * station),
                () -> model.setHeight(station, 900 - 100 * station));
        }
        for (int i = 0; i < 12; i++) {
            conduit();
        }
    }

    /** Asks both, and answers what is due; of the 513th call on nothing is promised, so that it is left out. */
    private Object same(String name, Checks.Call call, Checks.Call due) {
        if (asked == CALLS) {
            return "asked enough";
        }
        asked++;
        Object want = Checks.answer(due);
        Checks.due("run " + run + ": " + name, want, call);
        return want;
    }

    private boolean rarely() {
        return random.nextInt(wrong) == 0;
    }

    private int number(int least, int greatest) {
        if (rarely()) {
            int[] odd = {least - 1, greatest + 1, least, greatest, Integer.MIN_VALUE, Integer.MAX_VALUE, -1};
            return odd[random.nextInt(odd.length)];
        }
        return least + random.nextInt(greatest - least + 1);
    }

    private int station() {
        return number(0, Math.max(model.stations() - 1, 0));
    }

    private int shotNumber() {
        return number(0, Math.max(model.shots() - 1, 0));
    }

    private int day() {
        return days == 1000 ? number(0, 999) : rarely() ? number(0, 999) : random.nextInt(days);
    }

    private int step() {
        return steps == 999 && random.nextInt(3) == 0 ? (random.nextBoolean() ? 999 : -999) : number(-steps, steps);
    }

    private void told() {
        same("station", () -> book.station(), () -> model.station());
    }

    private void shot() {
        int from = station();
        int to = station();
        int day = random.nextBoolean() ? 0 : day();
        int east = step();
        int north = step();
        int up = step();
        int length = number(1, 999);
        int weight = heavy ? number(3, 4) : number(1, 4);
        same("shot " + from + " " + to + " " + day + " " + east + " " + north + " " + up + " " + length + " " + weight,
            () -> book.shot(from, to, day, east, north, up, length, weight),
            () -> model.shot(from, to, day, east, north, up, length, weight));
    }

    private void conduit() {
        int from = station();
        int to = station();
        int minutes = random.nextBoolean() ? number(1, 3) : number(1, 99);
        int hundredths = random.nextBoolean() ? number(1, 30) : number(1, 100);
        same("conduit " + from + " " + to + " " + minutes + " " + hundredths,
            () -> book.conduit(from, to, minutes, hundredths), () -> model.conduit(from, to, minutes, hundredths));
    }

    private void tell(int kind) {
        int s = station();
        int o = station();
        int k = shotNumber();
        int d = day();
        int p = number(0, 3);
        switch (kind) {
            case 0 -> shot();
            case 1 -> {
                if (random.nextInt(4) == 0) {
                    same("setAside " + k + " " + d, () -> book.setAside(k, d), () -> model.setAside(k, d));
                }
            }
            case 2 -> {
                if (random.nextInt(4) == 0) {
                    same("join " + s + " " + o + " " + d, () -> book.join(s, o, d), () -> model.join(s, o, d));
                }
            }
            case 3 -> {
                int height = number(0, 999);
                same("setHeight " + s + " " + height, () -> book.setHeight(s, height), () -> model.setHeight(s, height));
            }
            case 4 -> conduit();
            case 5 -> {
                int amount = random.nextBoolean() ? number(1, 100) : number(1, 100000);
                same("trace " + s + " " + amount, () -> book.trace(s, amount), () -> model.trace(s, amount));
            }
            case 6 -> {
                int hour = random.nextBoolean() ? number(0, 199) : number(0, 60);
                int rain = number(0, 99);
                same("rain " + hour + " " + rain, () -> book.rain(hour, rain), () -> model.rain(hour, rain));
            }
            case 7 -> {
                int level = random.nextBoolean() ? number(0, 30) : number(0, 999);
                same("sump " + k + " " + level, () -> book.sump(k, level), () -> model.sump(k, level));
            }
            case 8 -> same("party " + s, () -> book.party(s), () -> model.party(s));
            case 9 -> same("tell " + p + " " + k, () -> book.tell(p, k), () -> model.tell(p, k));
            case 10 -> same("go " + p + " " + k, () -> book.go(p, k), () -> model.go(p, k));
            default -> {
                int hours = random.nextInt(4) == 0 ? number(1, 48) : number(1, 3);
                same("pause " + p + " " + hours, () -> book.pause(p, hours), () -> model.pause(p, hours));
            }
        }
    }

    private void ask(int kind) {
        int s = station();
        int a = number(0, 2);
        int k = shotNumber();
        int d = day();
        int p = number(0, 3);
        int h = number(0, 400);
        int m = random.nextBoolean() ? number(0, 6) : number(0, 792);
        int i = random.nextBoolean() ? number(0, 3) : number(0, 50);
        switch (kind) {
            case 0 -> same("oneWith " + s + " " + d, () -> book.oneWith(s, d), () -> model.oneWith(s, d));
            case 1 -> same("isHung " + s + " " + d, () -> book.isHung(s, d), () -> model.isHung(s, d));
            case 2 -> same("top " + s + " " + a + " " + d, () -> book.top(s, a, d), () -> model.top(s, a, d));
            case 3 -> same("bottom " + s + " " + a + " " + d, () -> book.bottom(s, a, d), () -> model.bottom(s, a, d));
            case 4 -> same("loops " + d, () -> book.loops(d), () -> model.loops(d));
            case 5 -> same("fault " + k + " " + d, () -> book.fault(k, d), () -> model.fault(k, d));
            case 6 -> same("allFaults " + d, () -> book.allFaults(d), () -> model.allFaults(d));
            case 7 -> {
                if (random.nextInt(3) == 0) {
                    same("blunder " + d, () -> book.blunder(d), () -> model.blunder(d));
                }
            }
            case 8 -> same("length " + d, () -> book.length(d), () -> model.length(d));
            case 9 -> same("depth " + d, () -> book.depth(d), () -> model.depth(d));
            case 10 -> same("traced " + s + " " + m, () -> book.traced(s, m), () -> model.traced(s, m));
            case 11 -> same("peak " + s, () -> book.peak(s), () -> model.peak(s));
            case 12 -> same("water " + h, () -> book.water(h), () -> model.water(h));
            case 13 -> same("isClosed " + k + " " + h, () -> book.isClosed(k, h), () -> model.isClosed(k, h));
            case 14 -> same("knows " + p + " " + k, () -> book.knows(p, k), () -> model.knows(p, k));
            case 15 -> same("placeOf " + p, () -> book.placeOf(p), () -> model.placeOf(p));
            case 16 -> same("hourOf " + p, () -> book.hourOf(p), () -> model.hourOf(p));
            case 17 -> same("plan " + p, () -> book.plan(p), () -> model.plan(p));
            case 18 -> same("planAt " + p + " " + i, () -> book.planAt(p, i), () -> model.planAt(p, i));
            case 19 -> same("lastChance " + p, () -> book.lastChance(p), () -> model.lastChance(p));
            case 20 -> {
                same("stations", () -> book.stations(), () -> model.stations());
                same("shots", () -> book.shots(), () -> model.shots());
                same("allSteps", () -> book.allSteps(), () -> model.allSteps());
            }
            case 21 -> same("hungShare " + d, () -> book.hungShare(d), () -> model.hungShare(d));
            case 22 -> same("meanRain", () -> book.meanRain(), () -> model.meanRain());
            default -> same("isSound " + d, () -> book.isSound(d), () -> model.isSound(d));
        }
    }
}
