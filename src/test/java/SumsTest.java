/** Promises 35 to 40: numbers, sums, shares and soundness. */
public final class SumsTest {
    private SumsTest() {
    }

    public static void main(String[] args) {
        counts();
        steps();
        shares();
        meanRain();
        sound();
        soundPlans();
        Checks.finish();
    }

    private static void counts() {
        Cavernbook x = Checks.withStations(3);
        Checks.due("stations", 3, () -> x.stations());
        x.join(0, 1, 0);
        Checks.due("stations that are one were told as two", 3, () -> x.stations());
        Checks.due("no shots", 0, () -> x.shots());
        x.shot(0, 1, 0, 0, 0, 0, 1, 1);
        x.setAside(0, 0);
        Checks.due("also one set aside", 1, () -> x.shots());
    }

    private static void steps() {
        Cavernbook x = Checks.withStations(2);
        Checks.due("none", 0L, () -> x.allSteps());
        x.shot(0, 1, 0, 1, -20, 300, 1, 1);
        Checks.due("along all axes", 281L, () -> x.allSteps());
        x.shot(1, 0, 0, -999, -999, -999, 1, 1);
        Checks.due("of all shots", -2716L, () -> x.allSteps());
        x.setAside(0, 0);
        Checks.due("also set aside", -2716L, () -> x.allSteps());
    }

    private static void shares() {
        Cavernbook x = new Cavernbook();
        Checks.arithmetic("no stations", () -> x.hungShare(0));
        Checks.argument("day ahead of no stations", () -> x.hungShare(1000));
        x.station();
        Checks.due("the entrance", 1.0f, () -> x.hungShare(0));
        x.station();
        x.station();
        Checks.due("a third", 1.0f / 3.0f, () -> x.hungShare(0));
        x.shot(0, 1, 5, 0, 0, 0, 1, 1);
        Checks.due("two thirds", 2.0f / 3.0f, () -> x.hungShare(5));
        Checks.due("not yet", 1.0f / 3.0f, () -> x.hungShare(4));
        x.join(0, 1, 9);
        Checks.due("both count as one", 0.5f, () -> x.hungShare(9));
        Checks.argument("day -1", () -> x.hungShare(-1));
    }

    private static void meanRain() {
        Cavernbook x = new Cavernbook();
        Checks.arithmetic("none", () -> x.meanRain());
        x.rain(0, 7);
        Checks.due("one hour", 7.0, () -> x.meanRain());
        x.rain(199, 8);
        x.rain(5, 8);
        Checks.due("three hours", 23.0 / 3.0, () -> x.meanRain());
        x.rain(5, 0);
        Checks.due("two hours", 7.5, () -> x.meanRain());
        x.rain(0, 0);
        x.rain(199, 0);
        Checks.arithmetic("none again", () -> x.meanRain());
        x.rain(100, 1);
        Checks.due("the least", 1.0, () -> x.meanRain());
        x.rain(101, 2);
        Checks.due("an hour of 1 is one with rain", 1.5, () -> x.meanRain());
        x.rain(102, 1);
        Checks.due("a mean that no double holds", 4.0 / 3.0, () -> x.meanRain());
    }

    private static void sound() {
        Cavernbook x = new Cavernbook();
        Checks.due("nothing told", true, () -> x.isSound(0));
        for (int i = 0; i < 9; i++) {
            x.station();
        }
        for (int i = 0; i < 24; i++) {
            x.shot(i % 9, (i + 1 + i / 9) % 9, i, 37 * i - 400, 11 * i % 50, i, 1, 1 + i % 4);
        }
        x.party(5);
        x.tell(0, 4);
        Checks.due("all told", true, () -> x.isSound(999));
        Checks.due("in between", true, () -> x.isSound(12));
        Checks.argument("day -1", () -> x.isSound(-1));
        Checks.argument("day 1000", () -> x.isSound(1000));
    }

    /** Plans that wait for the water to fall, and plans that are out ahead of it, go along no closed shot. */
    private static void soundPlans() {
        Cavernbook x = Checks.withStations(2);
        x.shot(0, 1, 0, 1, 1, 1, 1, 1);
        x.sump(0, 1);
        x.party(0);
        x.party(1);
        Checks.due("no plan", true, () -> x.isSound(0));
        x.tell(1, 0);
        x.rain(1, 99);
        Checks.due("out ahead of the water", 1, () -> x.plan(1));
        Checks.due("so it is sound", true, () -> x.isSound(0));
        x.rain(0, 99);
        Checks.due("closed at first", true, () -> x.isClosed(0, 0));
        Checks.due("a plan that waits", -1, () -> x.planAt(1, 0));
        Checks.due("so it is sound too", true, () -> x.isSound(999));
    }
}
