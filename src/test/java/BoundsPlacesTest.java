/** The boundary cases of section 1: days, villages, springs, tankers, ways (promises 1 to 5, 11, 20). */
public final class BoundsPlacesTest {
    private static final int NONE = Bounds.NONE;

    public static void main(String[] args) {
        newObject();
        nothingThere();
        villageRanges();
        villageInItsTank();
        twelveVillages();
        springRanges();
        fullAtFirst();
        fourSprings();
        tankerRanges();
        tankerOfASpring();
        fourTankers();
        wayRange();
        wayEndsByMiles();
        tenMilesAtFirst();
        eachWayByItself();
        numbersOfPlaces();
        lastOfAll();
        daysOfACall();
        lastDay();
        flowFalls();
        poolIsFull();
        Check.end();
    }

    private static void due(String what, long got, long want) {
        Check.due(what, got, want);
    }

    /** One village that lacks water, one spring, one tanker that can help, one bore. */
    private static WaterCarts small() {
        WaterCarts x = new WaterCarts();
        x.village(10, 1, 1000, 20);
        x.spring(300, 700, 5);
        x.tanker(0, 400, 100);
        x.bore(0, 10, 10);
        return x;
    }

    private static void newObject() {
        WaterCarts x = new WaterCarts();
        due("1: no village", x.count(0), 0);
        due("1: no spring", x.count(1), 0);
        due("1: NOW", x.count(3), 0);
        for (int what = 0; what <= 9; what++) {
            due("1: count " + what, x.count(what), 0);
        }
        due("1: a day without anything", x.days(1), 1);
        due("1: none is dry then", x.count(4), 0);
        due("1: nothing is given then", x.count(5), 0);
    }

    /** Of a new object each number is one too large, 0 too. */
    private static void nothingThere() {
        Bounds.Maker none = WaterCarts::new;
        for (int number = -1; number <= 1; number++) {
            emptyRefuses("tanker", none, (x, n) -> x.tanker(n, 1, 0), number, NONE);
            emptyRefuses("way", none, (x, n) -> Bounds.told(x.way(n, n, 10)), number, Bounds.NO);
            emptyRefuses("want", none, (x, n) -> x.want(n), number, NONE);
            emptyRefuses("planned", none, (x, n) -> x.planned(n), number, NONE);
            emptyRefuses("foretold", none, (x, n) -> x.foretold(n), number, NONE);
            emptyRefuses("bore", none, (x, n) -> x.bore(n, 1, 1), number, NONE);
            emptyRefuses("drill", none, (x, n) -> Bounds.told(x.drill(n, 1)), number, Bounds.NO);
            emptyRefuses("dip", none, (x, n) -> x.dip(n, 1, 1, 1), number, NONE);
            emptyRefuses("isShort", none, (x, n) -> x.isShort(n), number, NONE);
            emptyRefuses("share", none, (x, n) -> x.share(n), number, NONE);
            emptyRefuses("look", none, (x, n) -> Bounds.look(x, n, 0), number, Bounds.THROWN);
            emptyRefuses("flows", none, (x, n) -> x.flows(n, 0), number, NONE);
            emptyRefuses("goes", none, (x, n) -> x.goes(n, 0), number, NONE);
        }
    }

    private static void emptyRefuses(String call, Bounds.Maker none, Bounds.Call on, int number, long refusal) {
        Bounds.refused("1: " + call + " with nothing there, " + number, none.make(), on, number, refusal);
    }

    private static void villageRanges() {
        Bounds.Maker none = WaterCarts::new;
        Bounds.range("2: people", none, (x, n) -> x.village(n, 0, 100, 0), 1, 2000, NONE);
        Bounds.range("2: beasts", none, (x, n) -> x.village(1, n, 100, 0), 0, 2000, NONE);
        Bounds.range("2: tank", none, (x, n) -> x.village(1, 0, n, 0), 1, 100000, NONE);
        Bounds.range("2: in, of 100", none, (x, n) -> x.village(1, 0, 100, n), 0, 100, NONE);
        Bounds.range("2: in, of 1", none, (x, n) -> x.village(1, 0, 1, n), 0, 1, NONE);
        Bounds.range("2: in, of 100000", none, (x, n) -> x.village(1, 0, 100000, n), 0, 100000, NONE);
        Bounds.range("2: people beside others", BoundsPlacesTest::small, (x, n) -> x.village(n, 0, 100, 0), 1, 2000, NONE);
        WaterCarts x = new WaterCarts();
        x.village(2000, 2000, 100000, 100000);
        x.village(1, 0, 1, 0);
        due("2: 2000 people", Bounds.look(x, 0, 0), 2000);
        due("2: 2000 beasts", Bounds.look(x, 0, 1), 2000);
        due("2: 100000 litres", Bounds.look(x, 0, 2), 100000);
        due("2: 1 of the people", Bounds.look(x, 1, 0), 1);
        due("2: no beasts", Bounds.look(x, 1, 1), 0);
        due("2: nothing in it", Bounds.look(x, 1, 2), 0);
        due("2: no well at first", Bounds.look(x, 0, 3), 0);
    }

    /** The litres in the tank go by the tank, even where the tank is refused. */
    private static void villageInItsTank() {
        WaterCarts x = new WaterCarts();
        due("2: a full tank", x.village(1, 0, 5, 5), 0);
        due("2: one above the tank", x.village(1, 0, 5, 6), NONE);
        due("2: one below a tank", x.village(1, 0, 5, 4), 1);
        due("2: a tank too large, as full as another may be", x.village(1, 0, 100001, 100000), NONE);
        due("2: a tank of none, empty", x.village(1, 0, 0, 0), NONE);
        due("2: a tank below none, as full", x.village(1, 0, -5, -5), NONE);
        due("2: the refused have no numbers", x.village(1, 0, 5, 0), 2);
    }

    private static void twelveVillages() {
        WaterCarts x = new WaterCarts();
        Bounds.atMost("2: villages", x, (y, n) -> y.village(1 + n, n, 50, 0), 12);
        due("2: 12 are there", x.count(0), 12);
        due("2: the last has its people", Bounds.look(x, 11, 0), 12);
        due("2: a 13th with other numbers", x.village(0, 0, 0, 0), NONE);
        due("2: a 13th a day later", x.days(1) == 1 ? x.village(1, 0, 1, 0) : 0, NONE);
    }

    private static void springRanges() {
        Bounds.Maker none = WaterCarts::new;
        Bounds.range("3: flow", none, (x, n) -> x.spring(n, 10, 0), 0, 100000, NONE);
        Bounds.range("3: pool", none, (x, n) -> x.spring(0, n, 0), 1, 200000, NONE);
        Bounds.range("3: fall", none, (x, n) -> x.spring(0, 10, n), 0, 100, NONE);
        Bounds.range("3: flow beside others", BoundsPlacesTest::small, (x, n) -> x.spring(n, 10, 0), 0, 100000, NONE);
        WaterCarts x = new WaterCarts();
        due("3: a flow above its pool", x.spring(100000, 1, 0), 0);
        due("3: it is told", x.flows(0, 0), 100000);
        due("3: no flow", x.spring(0, 200000, 100), 1);
        due("3: it is told, too", x.flows(1, 0), 0);
        due("3: refused", x.spring(-1, 1, 0), NONE);
        due("3: the refused has no number", x.spring(1, 1, 1), 2);
    }

    private static void fullAtFirst() {
        WaterCarts x = new WaterCarts();
        x.spring(7, 1, 0);
        x.spring(7, 200000, 0);
        due("3: a pool of 1 is full at first", x.flows(0, 1), 1);
        due("3: a pool of 200000 is full at first", x.flows(1, 1), 200000);
        x.days(5);
        x.spring(0, 300, 0);
        due("3: a later one, too", x.flows(2, 1), 300);
    }

    private static void fourSprings() {
        WaterCarts x = new WaterCarts();
        Bounds.atMost("3: springs", x, (y, n) -> y.spring(n, 10 + n, n), 4);
        due("3: 4 are there", x.count(1), 4);
        due("3: the last has its pool", x.flows(3, 1), 13);
        due("3: a 5th with other numbers", x.spring(-1, 0, 101), NONE);
    }

    private static void tankerRanges() {
        Bounds.Maker one = BoundsPlacesTest::small;
        Bounds.range("4: holds", one, (x, n) -> x.tanker(0, n, 10), 1, 20000, NONE);
        Bounds.range("4: miles", one, (x, n) -> x.tanker(0, 10, n), 0, 999, NONE);
        WaterCarts x = new WaterCarts();
        x.village(1, 0, 20, 0);
        x.village(2000, 0, 30000, 0);
        x.spring(0, 200000, 0);
        x.tanker(0, 20000, 0);
        due("4: with 0 miles it stands", x.plan(1), 2);
        x.tanker(0, 9, 999);
        due("4: with 9 litres 10 can't be brought", x.planned(0), NONE);
        x.tanker(0, 20000, 999);
        due("4: with 20000 litres 20000 can", x.planned(1), 2);
        due("4: with 20000 litres both are served", x.plan(1), 0);
    }

    private static void tankerOfASpring() {
        for (int springs = 1; springs <= 4; springs++) {
            int there = springs;
            Bounds.Maker some = () -> {
                WaterCarts x = new WaterCarts();
                for (int i = 0; i < there; i++) {
                    x.spring(1, 1, 1);
                }
                return x;
            };
            Bounds.range("4: of " + there + " springs", some, (x, n) -> x.tanker(n, 1, 0), 0, there - 1, NONE);
        }
    }

    private static void fourTankers() {
        WaterCarts x = small();
        x.tanker(0, 1, 1);
        x.tanker(0, 1, 1);
        due("4: the fourth", x.tanker(0, 1, 1), 3);
        Bounds.refused("4: a fifth", x, (y, n) -> y.tanker(0, n, n), 1, NONE);
        due("4: 4 are there", x.count(2), 4);
        WaterCarts y = new WaterCarts();
        y.spring(0, 1, 0);
        Bounds.atMost("4: tankers", y, (z, n) -> z.tanker(0, 1 + n, n), 4);
    }

    private static void wayRange() {
        Bounds.Maker one = BoundsPlacesTest::small;
        Bounds.range("5: miles", one, (x, n) -> Bounds.told(x.way(0, 0, n)), 1, 200, Bounds.NO);
        Bounds.range("5: spring", one, (x, n) -> Bounds.told(x.way(n, 0, 5)), 0, 0, Bounds.NO);
        Bounds.range("5: village", one, (x, n) -> Bounds.told(x.way(0, n, 5)), 0, 0, Bounds.NO);
    }

    /** A way of so many miles is driven twice, so a tanker needs twice as many, and not one less. */
    private static void wayEndsByMiles() {
        for (int way : new int[] {1, 2, 10, 199, 200}) {
            WaterCarts x = new WaterCarts();
            x.village(1, 0, 100, 0);
            x.spring(0, 1000, 0);
            x.tanker(0, 100, 2 * way - 1);
            x.way(0, 0, way);
            due("5: a mile too few for " + way, x.planned(0), NONE);
            x.tanker(0, 100, 2 * way);
            due("5: just the miles for " + way, x.planned(0), 1);
            due("5: there and back for " + way, x.plan(2), 2 * way);
            x.days(1);
            due("5: driven for " + way, x.goes(1, 0), 2 * way);
        }
    }

    /** From each spring to each village, whichever of them came first. */
    private static void tenMilesAtFirst() {
        for (int spring = 0; spring < 4; spring++) {
            for (int village = 0; village < 12; village++) {
                due("5: 10 miles from " + spring + " to " + village, plannedMiles(spring, village, NONE, 0), 20);
            }
        }
    }

    private static void eachWayByItself() {
        for (int spring = 0; spring < 4; spring++) {
            for (int village = 0; village < 12; village++) {
                int other = 12 * spring + village + 1 < 48 ? 12 * spring + village + 1 : 0;
                due("5: the way from " + spring + " to " + village, plannedMiles(spring, village, 12 * spring + village, 200), 400);
                due("5: not the next one's", plannedMiles(spring, village, other, 200), 20);
            }
        }
    }

    /** The miles planned where one village alone is needy, with a tanker at one spring alone, and one way set. */
    private static int plannedMiles(int spring, int village, int pair, int miles) {
        WaterCarts x = new WaterCarts();
        for (int i = 0; i < 12; i++) {
            x.village(1, 0, 100, i == village ? 0 : 100);
        }
        for (int i = 0; i < 4; i++) {
            x.spring(0, 1000, 0);
        }
        x.tanker(spring, 100, 999);
        if (pair >= 0) {
            due("5: a way set", Bounds.told(x.way(pair / 12, pair % 12, miles)), Bounds.YES);
        }
        due("5: planned", x.planned(village), 0);
        return x.plan(2);
    }

    /** Of some places: the last number, and the first that is none. */
    private static void numbersOfPlaces() {
        for (int villages = 1; villages <= 6; villages++) {
            int there = villages;
            Bounds.Maker some = () -> places(there, 1, 1);
            int last = there - 1;
            String of = " of " + there + " villages";
            Bounds.range("5: way" + of, some, (x, n) -> Bounds.told(x.way(0, n, 7)), 0, last, Bounds.NO);
            Bounds.range("8: want" + of, some, (x, n) -> x.want(n), 0, last, NONE);
            Bounds.range("10: planned" + of, some, (x, n) -> x.planned(n), 0, last, NONE);
            Bounds.range("12: foretold" + of, some, (x, n) -> x.foretold(n), 0, last, NONE);
            Bounds.range("13: bore" + of, some, (x, n) -> x.bore(n, 1, 1), 0, last, NONE);
            Bounds.range("18: share" + of, some, (x, n) -> x.share(n), 0, last, NONE);
            Bounds.range("19: look" + of, some, (x, n) -> Bounds.look(x, n, 3), 0, last, Bounds.THROWN);
        }
        for (int count = 1; count <= 4; count++) {
            int there = count;
            Bounds.Maker some = () -> places(1, there, there);
            int last = there - 1;
            String of = " of " + there;
            Bounds.range("5: way" + of + " springs", some, (x, n) -> Bounds.told(x.way(n, 0, 7)), 0, last, Bounds.NO);
            Bounds.range("20: flow" + of + " springs", some, (x, n) -> x.flows(n, 0), 0, last, NONE);
            Bounds.range("20: pool" + of + " springs", some, (x, n) -> x.flows(n, 1), 0, last, NONE);
            Bounds.range("16: dip" + of + " tankers", some, (x, n) -> x.dip(n, 1, 1, 1), 0, last, NONE);
            Bounds.range("17: isShort" + of + " tankers", some, (x, n) -> x.isShort(n), 0, last, NONE);
            Bounds.range("21: goes" + of + " tankers", some, (x, n) -> x.goes(n, 2), 0, last, NONE);
        }
    }

    private static WaterCarts places(int villages, int springs, int tankers) {
        WaterCarts x = new WaterCarts();
        for (int i = 0; i < villages; i++) {
            x.village(1, 0, 100, 0);
        }
        for (int i = 0; i < springs; i++) {
            x.spring(0, 1000, 0);
        }
        for (int i = 0; i < tankers; i++) {
            x.tanker(i, 100, 999);
        }
        return x;
    }

    /** Of 12 villages the 12th, and none behind it. */
    private static void lastOfAll() {
        WaterCarts x = places(12, 4, 4);
        due("5: way to the 12th", Bounds.told(x.way(3, 11, 200)), Bounds.YES);
        due("5: no way to a 13th", Bounds.told(x.way(3, 12, 200)), Bounds.NO);
        due("5: no way from a 5th", Bounds.told(x.way(4, 11, 200)), Bounds.NO);
        due("8: want of the 12th", x.want(11), 10);
        due("8: want of a 13th", x.want(12), NONE);
        due("10: planned of a 13th", x.planned(12), NONE);
        due("12: foretold of the 12th", x.foretold(11), 1);
        due("12: foretold of a 13th", x.foretold(12), NONE);
        due("13: bore of the 12th", x.bore(11, 1, 1), 0);
        due("13: bore of a 13th", x.bore(12, 1, 1), NONE);
        due("18: share of the 12th", x.share(11), 0);
        due("18: share of a 13th", x.share(12), NONE);
        due("19: look at the 12th", Bounds.look(x, 11, 0), 1);
        due("19: look at a 13th", Bounds.look(x, 12, 0), Bounds.THROWN);
        due("20: flows of a 5th", x.flows(4, 1), NONE);
        due("21: goes of a 5th", x.goes(4, 1), NONE);
        due("16: dip of a 5th", x.dip(4, 1, 1, 1), NONE);
        due("17: isShort of a 5th", x.isShort(4), NONE);
    }

    private static void daysOfACall() {
        Bounds.range("11: n", BoundsPlacesTest::small, (x, n) -> x.days(n), 0, 30, NONE);
        Bounds.range("11: n later", () -> {
            WaterCarts x = small();
            x.days(7);
            return x;
        }, (x, n) -> x.days(n), 0, 30, NONE);
        WaterCarts x = small();
        String ahead = Bounds.state(x);
        due("11: 0 days", x.days(0), 0);
        Check.due("11: 0 days change nothing", Bounds.state(x).equals(ahead), true);
        due("11: 1 day", x.days(1), 1);
        due("11: 29 days", x.days(29), 30);
        due("11: 30 days", x.days(30), 60);
        due("11: NOW is the last that went by", x.count(3), 60);
    }

    private static WaterCarts atDay(int day) {
        WaterCarts x = small();
        while (x.count(3) < day) {
            x.days(Math.min(30, day - x.count(3)));
        }
        return x;
    }

    private static void lastDay() {
        for (int day = 368; day <= 399; day++) {
            int left = Math.min(30, 399 - day);
            due("11: the most from " + day, atDay(day).days(left), day + left);
            Bounds.refused("11: one more from " + day, atDay(day), (x, n) -> x.days(n), left + 1, NONE);
        }
        WaterCarts x = atDay(399);
        due("11: 0 days at the end", x.days(0), 399);
        due("11: 30 days at the end", x.days(30), NONE);
        due("11: NOW at the end", x.count(3), 399);
        due("8: want at the end", x.want(0), 120);
        due("12: foretold at the end", x.foretold(0), 400);
    }

    private static int flowBehind(int flow, int fall, int days) {
        WaterCarts x = new WaterCarts();
        x.spring(flow, 1, fall);
        x.days(days);
        return x.flows(0, 0);
    }

    /** What the flow loses is cut upwards, so the least part of a litre is a litre. */
    private static void flowFalls() {
        due("20: 0 of 100 lose nothing", flowBehind(100000, 0, 30), 100000);
        due("20: 100 of 100 lose all", flowBehind(100000, 100, 1), 0);
        due("20: 99 of 100", flowBehind(100000, 99, 1), 1000);
        due("20: 1 of 100", flowBehind(100000, 1, 1), 99000);
        due("20: no flow loses nothing", flowBehind(0, 100, 1), 0);
        due("20: nor with another fall", flowBehind(0, 1, 1), 0);
        due("20: 1 loses 1", flowBehind(1, 1, 1), 0);
        due("20: 1 keeps all with a fall of 0", flowBehind(1, 0, 30), 1);
        due("20: 99 lose 1", flowBehind(99, 1, 1), 98);
        due("20: 100 lose 1", flowBehind(100, 1, 1), 99);
        due("20: 101 lose 2", flowBehind(101, 1, 1), 99);
        due("20: 200 lose 2", flowBehind(200, 1, 1), 198);
        due("20: 2 with 50 lose 1", flowBehind(2, 50, 1), 1);
        due("20: 3 with 50 lose 2", flowBehind(3, 50, 1), 1);
        due("20: 100 with 99 lose 99", flowBehind(100, 99, 1), 1);
        due("20: 10 with 99 lose 10", flowBehind(10, 99, 1), 0);
        due("20: behind each day", flowBehind(1000, 10, 4), 656);
        due("20: down to nothing, not below", flowBehind(5, 1, 6), 0);
    }

    private static void poolIsFull() {
        WaterCarts x = new WaterCarts();
        x.village(10, 0, 300, 0);
        x.spring(100, 300, 100);
        x.tanker(0, 100, 20);
        x.days(1);
        due("20: a full pool does not grow", x.flows(0, 1), 200);
        x.days(1);
        due("20: the flow is gone", x.flows(0, 1), 100);
        x.days(1);
        due("20: an empty pool", x.flows(0, 1), 0);
        x.days(1);
        due("20: stays empty", x.flows(0, 1), 0);
        due("20: no trip from it", x.goes(0, 0), 0);
        for (int flow : new int[] {99, 100, 101}) {
            WaterCarts y = new WaterCarts();
            y.village(10, 0, 100, 0);
            y.spring(flow, 300, 0);
            y.tanker(0, 100, 20);
            y.days(1);
            Check.text(y, "head 0 when 1;");
            y.days(1);
            due("20: 200 of 300 and a flow of " + flow, y.flows(0, 1), Math.min(300, 200 + flow));
        }
    }
}
