/** Promises 25 to 34: parties, what they know, where they go, their plans. */
public final class PartiesTest {
    private PartiesTest() {
    }

    public static void main(String[] args) {
        parties();
        knowing();
        going();
        goingBetweenOnes();
        goingOrder();
        pausing();
        plans();
        planOfFifty();
        planChoice();
        plansAndWater();
        planExceptions();
        Checks.finish();
    }

    private static void parties() {
        Cavernbook x = Checks.withStations(3);
        Checks.index("station 3", () -> x.party(3));
        Checks.index("station -1", () -> x.party(-1));
        for (int i = 0; i < 4; i++) {
            int number = i;
            Checks.due("party " + i, number, () -> x.party(2));
        }
        Checks.state("a fifth", () -> x.party(0));
        Checks.index("no station ahead of the fifth", () -> x.party(3));
        Checks.due("place", 2, () -> x.placeOf(3));
        Checks.due("hour", 0, () -> x.hourOf(3));
        x.join(2, 1, 999);
        Checks.due("place on any day", 1, () -> x.placeOf(3));
        Checks.index("placeOf 4", () -> x.placeOf(4));
        Checks.index("placeOf -1", () -> x.placeOf(-1));
        Checks.index("hourOf 4", () -> x.hourOf(4));
        Checks.index("hourOf -1", () -> x.hourOf(-1));
    }

    private static void knowing() {
        Cavernbook x = Checks.withStations(2);
        x.party(0);
        x.party(0);
        Checks.index("no shot", () -> x.tell(0, 0));
        for (int i = 0; i < 24; i++) {
            x.shot(0, 1, 0, 0, 0, 0, 1, 1);
        }
        Checks.due("none at first", false, () -> x.knows(0, 23));
        Checks.due("one", 1, () -> x.tell(0, 23));
        Checks.due("again", 1, () -> x.tell(0, 23));
        Checks.due("two", 2, () -> x.tell(0, 0));
        Checks.due("knows 23", true, () -> x.knows(0, 23));
        Checks.due("knows 0", true, () -> x.knows(0, 0));
        Checks.due("does not know 1", false, () -> x.knows(0, 1));
        Checks.due("nor does the other", false, () -> x.knows(1, 23));
        x.go(1, 5);
        Checks.due("by going", true, () -> x.knows(1, 5));
        Checks.due("counted too", 2, () -> x.tell(1, 6));
        Checks.index("tell party 2", () -> x.tell(2, 0));
        Checks.index("tell party -1", () -> x.tell(-1, 0));
        Checks.index("tell shot 24", () -> x.tell(0, 24));
        Checks.index("tell shot -1", () -> x.tell(0, -1));
        Checks.index("knows party 2", () -> x.knows(2, 0));
        Checks.index("knows party -1", () -> x.knows(-1, 0));
        Checks.index("knows shot 24", () -> x.knows(0, 24));
        Checks.index("knows shot -1", () -> x.knows(0, -1));
    }

    private static void going() {
        Cavernbook x = Checks.withStations(3);
        x.shot(0, 1, 900, 0, 0, 0, 1, 1);
        x.shot(2, 1, 0, 0, 0, 0, 1, 1);
        x.party(0);
        Checks.unsupported("not from there", () -> x.go(0, 1));
        Checks.due("along it", 1, () -> x.go(0, 0));
        Checks.due("an hour later", 1, () -> x.hourOf(0));
        Checks.due("the other way", 2, () -> x.go(0, 1));
        Checks.due("place", 2, () -> x.placeOf(0));
        Checks.unsupported("not from there any more", () -> x.go(0, 0));
        Checks.due("hour as it was", 2, () -> x.hourOf(0));
        x.setAside(1, 999);
        Checks.unsupported("set aside on any day", () -> x.go(0, 1));
        x.shot(1, 2, 0, 0, 0, 0, 1, 1);
        x.sump(2, 10);
        x.rain(2, 10);
        Checks.unsupported("closed", () -> x.go(0, 2));
        Checks.due("not learnt by that", false, () -> x.knows(0, 2));
        x.pause(0, 1);
        Checks.due("an hour later it is open", 1, () -> x.go(0, 2));
        Checks.index("party 1", () -> x.go(1, 0));
        Checks.index("party -1", () -> x.go(-1, 0));
        Checks.index("shot 3", () -> x.go(0, 3));
        Checks.index("shot -1", () -> x.go(0, -1));
    }

    private static void goingBetweenOnes() {
        Cavernbook x = Checks.withStations(4);
        x.shot(2, 3, 0, 0, 0, 0, 1, 1);
        x.shot(0, 1, 0, 0, 0, 0, 1, 1);
        x.party(3);
        x.join(3, 2, 999);
        Checks.due("where it was", 2, () -> x.go(0, 0));
        Checks.due("the next hour", 1, () -> x.hourOf(0));
        x.join(1, 2, 500);
        Checks.due("from a station that is one with it", 0, () -> x.go(0, 1));
        Checks.due("to the lowest of them", 1, () -> x.go(0, 1));
        Checks.due("place", 1, () -> x.placeOf(0));
        x.party(3);
        Checks.due("by a join of a day and one over it", 0, () -> x.go(1, 1));
        Cavernbook y = Checks.withStations(3);
        y.shot(1, 0, 0, 0, 0, 0, 1, 1);
        y.party(2);
        Checks.unsupported("not from there", () -> y.go(0, 0));
        y.join(1, 2, 999);
        Checks.due("by a join of the last day", 0, () -> y.go(0, 0));
    }

    private static void goingOrder() {
        Cavernbook x = Checks.withStations(3);
        x.shot(0, 1, 0, 0, 0, 0, 1, 1);
        x.shot(1, 2, 0, 0, 0, 0, 1, 1);
        x.shot(0, 2, 0, 0, 0, 0, 1, 1);
        x.setAside(2, 0);
        x.party(0);
        for (int i = 0; i < 4; i++) {
            x.pause(0, 48);
        }
        x.pause(0, 6);
        Checks.due("in the hour 198", 1, () -> x.go(0, 0));
        Checks.due("hour 199", 199, () -> x.hourOf(0));
        Checks.state("not in the hour 199", () -> x.go(0, 0));
        Checks.state("nor on", () -> x.go(0, 1));
        Checks.unsupported("not from there is ahead", () -> x.go(0, 2));
        Checks.due("place as it was", 1, () -> x.placeOf(0));
        Checks.due("not learnt by that", false, () -> x.knows(0, 1));
        x.sump(0, 1);
        x.rain(199, 1);
        Checks.unsupported("closed is ahead", () -> x.go(0, 0));
    }

    private static void pausing() {
        Cavernbook x = Checks.withStations(1);
        x.party(0);
        Checks.due("one hour", 1, () -> x.pause(0, 1));
        Checks.due("48 hours", 49, () -> x.pause(0, 48));
        Checks.argument("0 hours", () -> x.pause(0, 0));
        Checks.argument("49 hours", () -> x.pause(0, 49));
        Checks.argument("-1 hours", () -> x.pause(0, -1));
        Checks.argument("far too many", () -> x.pause(0, Integer.MAX_VALUE));
        Checks.index("party 1", () -> x.pause(1, 0));
        Checks.index("party -1", () -> x.pause(-1, 1));
        x.pause(0, 48);
        x.pause(0, 48);
        x.pause(0, 48);
        Checks.due("193", 193, () -> x.hourOf(0));
        Checks.argument("above 199", () -> x.pause(0, 7));
        Checks.due("as it was", 193, () -> x.hourOf(0));
        Checks.due("199", 199, () -> x.pause(0, 6));
        Checks.argument("above 199 by one", () -> x.pause(0, 1));
    }

    private static void plans() {
        Cavernbook x = Checks.withStations(3);
        x.shot(0, 1, 999, 0, 0, 0, 1, 1);
        x.shot(1, 2, 0, 0, 0, 0, 1, 1);
        x.party(2);
        x.party(0);
        Checks.noElement("knows nothing", () -> x.plan(0));
        x.tell(0, 1);
        Checks.noElement("knows too little", () -> x.plan(0));
        Checks.noElement("knows too little for a chance", () -> x.lastChance(0));
        Checks.noElement("knows too little for a step", () -> x.planAt(0, -1));
        x.tell(0, 0);
        Checks.due("two hours", 2, () -> x.plan(0));
        Checks.due("first 1", 1, () -> x.planAt(0, 0));
        Checks.due("then 0", 0, () -> x.planAt(0, 1));
        Checks.argument("over then", () -> x.planAt(0, 2));
        Checks.argument("index -1", () -> x.planAt(0, -1));
        Checks.argument("index far beyond", () -> x.planAt(0, Integer.MAX_VALUE));
        Checks.due("last chance", 48, () -> x.lastChance(0));
        Checks.due("at the entrance", 0, () -> x.plan(1));
        Checks.due("50 hours later", 50, () -> x.lastChance(1));
        Checks.argument("nothing to do", () -> x.planAt(1, 0));
        x.pause(1, 9);
        Checks.due("its own hour", 9, () -> x.plan(1));
        Checks.due("59", 59, () -> x.lastChance(1));
        x.setAside(0, 999);
        Checks.noElement("set aside", () -> x.plan(0));
        x.join(1, 0, 77);
        Checks.due("one with the entrance", 1, () -> x.plan(0));
        Checks.due("last chance then", 49, () -> x.lastChance(0));
    }

    /** Closed up to the hour 48 or 49, so that it is out just 50 hours later, or not at all; behind 199. */
    private static void planOfFifty() {
        Cavernbook x = Checks.withStations(2);
        x.shot(0, 1, 0, 0, 0, 0, 1, 1);
        x.sump(0, 1);
        x.party(1);
        x.tell(0, 0);
        for (int hour = 0; hour <= 45; hour++) {
            x.rain(hour, 1);
        }
        Checks.due("1 stands three quarters of an hour", 0, () -> x.water(46));
        Checks.due("47", 47, () -> x.plan(0));
        x.rain(46, 1);
        x.rain(47, 1);
        x.rain(48, 1);
        Checks.due("50 hours later", 50, () -> x.plan(0));
        Checks.due("the last step", 0, () -> x.planAt(0, 49));
        Checks.due("waiting ahead of it", -1, () -> x.planAt(0, 48));
        Checks.argument("no more", () -> x.planAt(0, 50));
        Checks.due("the only chance", 49, () -> x.lastChance(0));
        x.rain(49, 1);
        Checks.noElement("51 hours later is too late", () -> x.plan(0));
        x.pause(0, 1);
        Checks.due("an hour later it is not", 51, () -> x.plan(0));
        x.pause(0, 48);
        x.pause(0, 48);
        x.pause(0, 48);
        x.pause(0, 48);
        x.pause(0, 6);
        x.rain(199, 99);
        Checks.due("behind 199", 214, () -> x.plan(0));
        Checks.due("last chance behind 199", 248, () -> x.lastChance(0));
    }

    /** Two ways of two hours, over 1 and over 2; and waiting ahead of going where both are as early. */
    private static void planChoice() {
        Cavernbook x = Checks.withStations(4);
        x.shot(2, 0, 0, 0, 0, 0, 1, 1);
        x.shot(1, 0, 0, 0, 0, 0, 1, 1);
        x.shot(3, 1, 0, 0, 0, 0, 1, 1);
        x.shot(3, 2, 0, 0, 0, 0, 1, 1);
        x.party(3);
        for (int i = 0; i < 4; i++) {
            x.tell(0, i);
        }
        Checks.due("two hours", 2, () -> x.plan(0));
        Checks.due("the lower one first", 2, () -> x.planAt(0, 0));
        Checks.due("then its end", 1, () -> x.planAt(0, 1));
        x.sump(1, 1);
        x.sump(0, 1);
        x.rain(2, 1);
        x.rain(1, 1);
        Checks.due("both closed up to 2", 4, () -> x.plan(0));
        Checks.due("waits", -1, () -> x.planAt(0, 0));
        Checks.due("waits still", -1, () -> x.planAt(0, 1));
        Checks.due("goes", 2, () -> x.planAt(0, 2));
        Checks.due("goes out", 1, () -> x.planAt(0, 3));
    }

    private static void plansAndWater() {
        Cavernbook x = Checks.withStations(3);
        x.shot(2, 1, 0, 0, 0, 0, 1, 1);
        x.shot(1, 0, 0, 0, 0, 0, 1, 1);
        x.sump(0, 30);
        x.sump(1, 1);
        x.party(2);
        x.tell(0, 0);
        x.tell(0, 1);
        x.rain(10, 99);
        for (int hour = 15; hour < 60; hour++) {
            x.rain(hour, 30);
        }
        Checks.due("ahead of the water", 2, () -> x.plan(0));
        Checks.due("the last chance is ahead of it too", 8, () -> x.lastChance(0));
        x.pause(0, 9);
        Checks.noElement("too late", () -> x.plan(0));
    }

    private static void planExceptions() {
        Cavernbook x = Checks.withStations(2);
        x.party(1);
        Checks.index("plan 1", () -> x.plan(1));
        Checks.index("plan -1", () -> x.plan(-1));
        Checks.index("planAt 1", () -> x.planAt(1, -1));
        Checks.index("planAt -1", () -> x.planAt(-1, 0));
        Checks.noElement("no plan is ahead of the index", () -> x.planAt(0, -1));
        Checks.index("lastChance 1", () -> x.lastChance(1));
        Checks.index("lastChance -1", () -> x.lastChance(-1));
    }
}
