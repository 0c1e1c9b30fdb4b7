/** The boundary cases of section 3: the day, the plan, the day foretold, and what is told (promises 9 to 12, 19 to 22). */
public final class BoundsDaysTest {
    private static final int NONE = Bounds.NONE;

    public static void main(String[] args) {
        whatOfPlan();
        whatOfLook();
        whatOfFlowsAndGoes();
        whatOfCount();
        needyHaveLess();
        needyWithAFullTank();
        sixOfTheNeedy();
        sevenNeedyOverDays();
        milesOfATanker();
        milesTogether();
        oneTripAVillage();
        leastOfThree();
        oneTripBehindTheOther();
        fewestStillNeedy();
        leastMiles();
        leastTanker();
        noneIsTheLast();
        firstTryIsNotTheBest();
        othersThatCantBeHelped();
        onePlanBehindTheOther();
        wantAheadOfTheTrip();
        nothingComeYet();
        planChangesNothing();
        wellFillsTheTank();
        flowAheadOfTrips();
        givenOrDry();
        tripIsGivenOnTheDay();
        dryInARow();
        lateComers();
        sumsAtTheirMost();
        foretoldDays();
        foretoldByTheWell();
        foretoldByTheNextDay();
        Check.end();
    }

    private static void due(String what, long got, long want) {
        Check.due(what, got, want);
    }

    private static WaterCarts small() {
        WaterCarts x = new WaterCarts();
        x.village(10, 1, 1000, 20);
        x.spring(300, 700, 5);
        x.tanker(0, 400, 100);
        x.days(2);
        return x;
    }

    private static void whatOfPlan() {
        Bounds.range("9: what", BoundsDaysTest::small, (x, n) -> x.plan(n), 0, 2, NONE);
        Bounds.range("9: what of a new one", WaterCarts::new, (x, n) -> x.plan(n), 0, 2, NONE);
        WaterCarts x = new WaterCarts();
        due("9: none needy", x.plan(0), 0);
        due("9: none still", x.plan(1), 0);
        due("9: no miles", x.plan(2), 0);
    }

    private static void whatOfLook() {
        Bounds.range("19: what", BoundsDaysTest::small, (x, n) -> Bounds.look(x, 0, n), 0, 8, Bounds.THROWN);
        Bounds.range("19: village", BoundsDaysTest::small, (x, n) -> Bounds.look(x, n, 8), 0, 0, Bounds.THROWN);
        WaterCarts x = new WaterCarts();
        x.village(1, 0, 30, 25);
        for (int what = 3; what <= 8; what++) {
            due("19: 0 ahead of any day, " + what, Bounds.look(x, 0, what), 0);
        }
        due("19: neither village nor what", Bounds.look(x, 1, 9), Bounds.THROWN);
        due("19: it goes on behind a throw", x.days(1), 1);
        due("19: given on the latest day", Bounds.look(x, 0, 4), 10);
    }

    private static void whatOfFlowsAndGoes() {
        Bounds.range("20: what", BoundsDaysTest::small, (x, n) -> x.flows(0, n), 0, 1, NONE);
        Bounds.range("21: what", BoundsDaysTest::small, (x, n) -> x.goes(0, n), 0, 2, NONE);
        WaterCarts x = new WaterCarts();
        x.spring(5, 9, 0);
        x.tanker(0, 1, 1);
        for (int what = 0; what <= 2; what++) {
            due("21: 0 ahead of any day, " + what, x.goes(0, what), 0);
        }
        due("20: neither spring nor what", x.flows(1, 2), NONE);
        due("21: neither tanker nor what", x.goes(1, 3), NONE);
    }

    private static void whatOfCount() {
        Bounds.range("22: what", BoundsDaysTest::small, (x, n) -> x.count(n), 0, 9, NONE);
        Bounds.range("22: what of a new one", WaterCarts::new, (x, n) -> x.count(n), 0, 9, NONE);
        WaterCarts x = new WaterCarts();
        x.village(1, 0, 1, 0);
        due("22: 1 village", x.count(0), 1);
        due("22: no spring", x.count(1), 0);
        x.spring(0, 1, 0);
        due("22: 1 spring", x.count(1), 1);
        due("22: no tanker", x.count(2), 0);
        x.tanker(0, 1, 0);
        due("22: 1 tanker", x.count(2), 1);
        due("22: no bore", x.count(6), 0);
        x.bore(0, 1, 1);
        due("22: 1 bore", x.count(6), 1);
        x.drill(0, 0);
        due("22: a drilled one still counts", x.count(6), 1);
        due("22: no dip", x.count(7), 0);
        x.dip(0, 0, 0, 0);
        due("22: 1 dip", x.count(7), 1);
        due("22: none dry yet", x.count(4), 0);
        x.days(1);
        due("22: 1 dry", x.count(4), 1);
        due("22: nothing given", x.count(5), 0);
    }

    /** Villages of 10 people with 10 litres a head, so that each wants 100. */
    private static WaterCarts villages(int... in) {
        WaterCarts x = new WaterCarts();
        for (int litres : in) {
            x.village(10, 0, 1000, litres);
        }
        return x;
    }

    private static void needyHaveLess() {
        due("9: one less than it wants", villages(99).plan(0), 1);
        due("9: just what it wants", villages(100).plan(0), 0);
        due("9: one more", villages(101).plan(0), 0);
        due("9: nothing", villages(0).plan(0), 1);
        WaterCarts x = villages(0);
        Check.text(x, "head 0 when 1;");
        due("9: nothing, and wants nothing", x.plan(0), 0);
        due("10: nothing, and wants nothing", x.planned(0), NONE);
        x.days(1);
        due("11: it is not dry", Bounds.look(x, 0, 5), 0);
    }

    /** A tank for less than is wanted has no room for enough: no trip helps. */
    private static void needyWithAFullTank() {
        for (int tank : new int[] {99, 100}) {
            for (int in : new int[] {0, 1, tank}) {
                WaterCarts x = new WaterCarts();
                x.village(10, 0, tank, in);
                x.spring(0, 1000, 0);
                x.tanker(0, 1000, 999);
                boolean needy = in < 100;
                boolean helped = needy && tank == 100;
                due("9: needy, " + in + " of " + tank, x.plan(0), needy ? 1 : 0);
                due("9: still needy, " + in + " of " + tank, x.plan(1), needy && !helped ? 1 : 0);
                due("9: miles, " + in + " of " + tank, x.plan(2), helped ? 20 : 0);
                due("10: tanker, " + in + " of " + tank, x.planned(0), helped ? 0 : NONE);
            }
        }
    }

    private static void sixOfTheNeedy() {
        for (int needy = 0; needy <= 12; needy++) {
            WaterCarts x = villages(new int[needy]);
            x.spring(0, 100000, 0);
            due("9: needy of " + needy, x.plan(0), needy);
            due("9: still needy without a tanker, of " + needy, x.plan(1), Math.min(6, needy));
            x.tanker(0, 100, 999);
            due("9: still needy of " + needy, x.plan(1), 0);
            due("9: miles for " + needy, x.plan(2), 20 * Math.min(6, needy));
            for (int i = 0; i < needy; i++) {
                due("10: tanker of " + i + " among " + needy, x.planned(i), i < 6 ? 0 : NONE);
            }
            x.days(1);
            due("11: dry of " + needy, x.count(4), Math.max(0, needy - 6));
        }
        WaterCarts x = villages(100, 0, 100, 0, 0, 0, 100, 0, 0, 0, 100, 0);
        x.spring(0, 100000, 0);
        x.tanker(0, 100, 999);
        due("9: eight are needy", x.plan(0), 8);
        int[] tankers = {NONE, 0, NONE, 0, 0, 0, NONE, 0, 0, NONE, NONE, NONE};
        for (int i = 0; i < 12; i++) {
            due("10: the first six by numbers, " + i, x.planned(i), tankers[i]);
        }
    }

    /** The seventh gets a trip when one ahead of it is no longer needy. */
    private static void sevenNeedyOverDays() {
        WaterCarts x = villages(0, 0, 0, 0, 0, 0, 0);
        x.spring(0, 100000, 0);
        x.tanker(0, 1000, 999);
        x.days(1);
        due("11: six were helped", Bounds.look(x, 5, 2), 900);
        due("11: not the seventh", Bounds.look(x, 6, 5), 1);
        due("9: it alone is needy then", x.plan(0), 1);
        due("10: it has the tanker then", x.planned(6), 0);
        x.days(1);
        due("11: it is helped", Bounds.look(x, 6, 2), 900);
        due("21: one trip", x.goes(0, 0), 20);
        due("21: seven in all", x.goes(0, 1), 140);
    }

    private static WaterCarts oneWithMiles(int miles, int way) {
        WaterCarts x = villages(0);
        x.spring(0, 1000, 0);
        x.tanker(0, 1000, miles);
        x.way(0, 0, way);
        return x;
    }

    private static void milesOfATanker() {
        due("9: 0 miles", oneWithMiles(0, 1).plan(1), 1);
        due("9: 1 mile for a way of 1", oneWithMiles(1, 1).plan(1), 1);
        due("9: 2 miles for a way of 1", oneWithMiles(2, 1).plan(1), 0);
        due("9: 399 miles for a way of 200", oneWithMiles(399, 200).plan(1), 1);
        due("9: 400 miles for a way of 200", oneWithMiles(400, 200).plan(1), 0);
        due("9: 999 miles for a way of 200", oneWithMiles(999, 200).plan(2), 400);
    }

    private static void milesTogether() {
        for (int miles = 57; miles <= 63; miles++) {
            WaterCarts x = villages(0, 0, 0);
            x.spring(0, 10000, 0);
            x.tanker(0, 1000, miles);
            due("9: three trips of 20 with " + miles, x.plan(1), miles < 60 ? 1 : 0);
            due("9: miles of " + miles, x.plan(2), miles < 60 ? 40 : 60);
            x.days(1);
            due("21: driven of " + miles, x.goes(0, 0), miles < 60 ? 40 : 60);
            Check.text(x, "head 99 when 1;");
            due("9: the miles are a day's, with " + miles, x.plan(1), miles < 60 ? 1 : 0);
        }
        WaterCarts x = villages(0, 0, 0, 0, 0, 0);
        x.spring(0, 10000, 0);
        x.tanker(0, 1000, 998);
        for (int i = 0; i < 6; i++) {
            x.way(0, i, i == 5 ? 84 : 83);
        }
        due("9: 998 miles of 998", x.plan(2), 998);
        due("9: all six", x.plan(1), 0);
        x.way(0, 5, 85);
        due("9: not 1000", x.plan(1), 1);
        due("9: five of them", x.plan(2), 830);
    }

    private static void oneTripAVillage() {
        WaterCarts x = villages(0);
        x.spring(0, 10000, 0);
        x.tanker(0, 99, 999);
        x.tanker(0, 99, 999);
        due("9: two that are too small don't go together", x.plan(1), 1);
        due("9: nor drive", x.plan(2), 0);
        x.tanker(0, 100, 999);
        due("10: one that is not", x.planned(0), 2);
        x.days(1);
        due("19: one trip", Bounds.look(x, 0, 8), 1);
        due("21: 100 litres", x.goes(2, 2), 100);
    }

    private static long brought(int holds, int pool, int tank, int in) {
        WaterCarts x = new WaterCarts();
        x.village(10, 0, tank, in);
        x.spring(0, pool, 0);
        x.tanker(0, holds, 20);
        x.days(1);
        due("20: what is left of " + pool, x.flows(0, 1), pool - x.goes(0, 2));
        return x.goes(0, 2);
    }

    private static void leastOfThree() {
        due("11: what it holds", brought(150, 151, 151, 0), 150);
        due("11: what the pool has", brought(151, 150, 151, 0), 150);
        due("11: what there is room for", brought(151, 151, 150, 0), 150);
        due("11: all the same", brought(150, 150, 150, 0), 150);
        due("11: room of a tank that is not empty", brought(500, 500, 500, 99), 401);
        due("11: it holds just enough", brought(1, 500, 500, 99), 1);
        due("11: it holds too little", brought(1, 500, 500, 98), 0);
        due("11: the pool has just enough", brought(500, 1, 500, 99), 1);
        due("11: the pool has too little", brought(500, 1, 500, 98), 0);
        due("11: just room enough", brought(500, 500, 100, 99), 1);
        due("11: too little room", brought(500, 500, 99, 98), 0);
        due("11: the most", brought(20000, 200000, 100000, 0), 20000);
    }

    /** A trip takes what it takes, so what is left for the next one goes by the first. */
    private static void oneTripBehindTheOther() {
        for (int pool = 298; pool <= 302; pool++) {
            WaterCarts x = villages(0, 0);
            x.spring(0, pool, 0);
            x.tanker(0, 200, 999);
            due("9: both of " + pool, x.plan(1), pool < 300 ? 1 : 0);
            due("9: miles of " + pool, x.plan(2), pool < 300 ? 20 : 40);
            x.days(1);
            due("20: left of " + pool, x.flows(0, 1), pool < 300 ? pool - 200 : 0);
        }
        WaterCarts x = villages(0, 50);
        x.spring(0, 150, 0);
        x.tanker(0, 1000, 20);
        x.tanker(0, 100, 20);
        due("9: the large one leaves too little for the other", x.plan(1), 0);
        due("10: so the small one goes first", x.planned(0), 1);
        due("10: and the large one takes the rest", x.planned(1), 0);
    }

    private static void fewestStillNeedy() {
        WaterCarts x = villages(0, 0);
        x.spring(0, 10000, 0);
        x.tanker(0, 1000, 400);
        x.way(0, 0, 1);
        x.way(0, 1, 199);
        due("9: both, with 400 miles", x.plan(1), 0);
        due("9: however far", x.plan(2), 400);
        x.way(0, 1, 200);
        due("9: one of them, with a mile more", x.plan(1), 1);
        due("9: the nearer", x.plan(2), 2);
        WaterCarts y = villages(0, 0, 0);
        y.spring(0, 300, 0);
        y.tanker(0, 300, 999);
        y.tanker(0, 100, 60);
        due("9: three by the small one", y.plan(1), 0);
        due("10: the first, too", y.planned(0), 1);
        due("10: the last by the least that can", y.planned(2), 0);
    }

    private static void leastMiles() {
        WaterCarts x = villages(0);
        x.spring(0, 1000, 0);
        x.spring(0, 1000, 0);
        x.tanker(0, 1000, 999);
        x.tanker(1, 1000, 999);
        due("10: of equal miles the least tanker", x.planned(0), 0);
        x.way(1, 0, 9);
        due("10: of a mile less the other", x.planned(0), 1);
        due("9: its miles", x.plan(2), 18);
        x.way(1, 0, 11);
        due("10: of a mile more the first", x.planned(0), 0);
        WaterCarts y = villages(0, 0);
        y.spring(0, 100, 0);
        y.tanker(0, 100, 999);
        y.way(0, 0, 11);
        due("10: one of two, the nearer", y.planned(1), 0);
        due("10: not the first", y.planned(0), NONE);
        y.way(0, 1, 11);
        due("10: as near, the first", y.planned(0), 0);
        due("10: not the second", y.planned(1), NONE);
    }

    private static void leastTanker() {
        WaterCarts x = villages(0, 0);
        x.spring(0, 1000, 0);
        for (int i = 0; i < 4; i++) {
            x.tanker(0, 500, 20);
        }
        due("10: the first", x.planned(0), 0);
        due("10: the second", x.planned(1), 1);
        WaterCarts y = villages(0, 0, 0);
        y.spring(0, 1000, 0);
        y.tanker(0, 100, 39);
        y.tanker(0, 100, 40);
        y.tanker(0, 100, 999);
        due("10: the least for the first", y.planned(0), 0);
        due("10: the least that can for the second", y.planned(1), 1);
        due("10: and for the third", y.planned(2), 1);
        y.village(10, 0, 1000, 0);
        due("10: and for the fourth", y.planned(3), 2);
        WaterCarts z = villages(0, 0);
        z.spring(0, 100, 0);
        z.spring(0, 100, 0);
        z.tanker(1, 100, 999);
        z.tanker(0, 100, 999);
        due("10: by tankers, not by springs", z.planned(0), 0);
        due("10: the other then", z.planned(1), 1);
    }

    private static void noneIsTheLast() {
        WaterCarts x = villages(0, 0, 0);
        x.spring(0, 1000, 0);
        x.tanker(0, 100, 20);
        due("10: the first has it", x.planned(0), 0);
        due("10: not the second", x.planned(1), NONE);
        due("10: not the third", x.planned(2), NONE);
        x.tanker(0, 100, 20);
        due("10: the first still", x.planned(0), 0);
        due("10: the second then", x.planned(1), 1);
        due("10: not the third then", x.planned(2), NONE);
        x.tanker(0, 50, 999);
        due("10: too small for any", x.planned(2), NONE);
        due("9: one is left", x.plan(1), 1);
        WaterCarts y = villages(0, 0);
        y.spring(0, 1000, 0);
        y.tanker(0, 99, 999);
        y.tanker(0, 100, 20);
        due("10: a tanker above 0 is still ahead of none", y.planned(0), 1);
        due("10: none for the second", y.planned(1), NONE);
    }

    /** What the first tanker could do for the first village it must do for the others: its miles, its pool's litres. */
    private static void firstTryIsNotTheBest() {
        for (int miles = 39; miles <= 40; miles++) {
            WaterCarts x = new WaterCarts();
            x.village(10, 0, 1000, 0);
            x.village(20, 0, 1000, 0);
            x.village(20, 0, 1000, 0);
            x.spring(0, 10000, 0);
            x.tanker(0, 1000, miles);
            x.tanker(0, 100, 999);
            due("9: still needy with " + miles + " miles", x.plan(1), miles < 40 ? 1 : 0);
            due("10: the first by the small one", x.planned(0), 1);
            due("10: the second by the large one", x.planned(1), 0);
            due("10: the third by the large one, with " + miles, x.planned(2), miles < 40 ? NONE : 0);
        }
        for (int pool = 399; pool <= 400; pool++) {
            WaterCarts x = new WaterCarts();
            x.village(20, 0, 1000, 0);
            x.village(20, 0, 1000, 0);
            x.village(20, 0, 1000, 0);
            x.spring(0, pool, 0);
            x.spring(0, 200, 0);
            x.tanker(0, 200, 999);
            x.tanker(1, 200, 999);
            x.way(1, 1, 200);
            x.way(1, 2, 200);
            due("9: still needy with a pool of " + pool, x.plan(1), pool < 400 ? 1 : 0);
            due("10: the first by the other spring, with " + pool, x.planned(0), 1);
            due("10: the second by the first spring, with " + pool, x.planned(1), 0);
            due("10: the third by the first spring, with " + pool, x.planned(2), pool < 400 ? NONE : 0);
            due("9: miles with a pool of " + pool, x.plan(2), pool < 400 ? 40 : 60);
        }
    }

    /** Those that none can help neither cost miles nor keep a nearer tanker from the one that can be helped. */
    private static void othersThatCantBeHelped() {
        for (int helpless = 0; helpless <= 5; helpless++) {
            WaterCarts x = villages(0);
            for (int i = 0; i < helpless; i++) {
                x.village(10, 0, 99, 0);
            }
            x.spring(0, 1000, 0);
            x.spring(0, 1000, 0);
            x.tanker(0, 1000, 999);
            x.tanker(1, 1000, 999);
            x.way(1, 0, 9);
            due("9: needy beside " + helpless, x.plan(0), helpless + 1);
            due("9: still needy beside " + helpless, x.plan(1), helpless);
            due("9: miles beside " + helpless, x.plan(2), 18);
            due("10: the nearer beside " + helpless, x.planned(0), 1);
        }
    }

    /** Nothing of a plan for many is left in the next one, for fewer or with other ways. */
    private static void onePlanBehindTheOther() {
        WaterCarts x = new WaterCarts();
        for (int i = 0; i < 6; i++) {
            x.village(i + 1, 0, 100, 0);
        }
        x.spring(0, 100000, 0);
        for (int needy = 6; needy >= 0; needy--) {
            Check.text(x, "head 0 when people < " + (7 - needy) + ";");
            due("9: without a tanker, needy " + needy, x.plan(0), needy);
            due("9: without a tanker, still needy " + needy, x.plan(1), needy);
        }
        x.tanker(0, 100, 999);
        for (int way : new int[] {10, 80, 1, 80, 2}) {
            for (int i = 0; i < 6; i++) {
                x.way(0, i, way);
            }
            for (int needy = 6; needy >= 0; needy -= 5) {
                Check.text(x, "head 0 when people < " + (7 - needy) + ";");
                due("9: still needy of " + needy + " with a way of " + way, x.plan(1), 0);
                due("9: miles for " + needy + " with a way of " + way, x.plan(2), 2 * way * needy);
                due("10: the last of " + needy + " with a way of " + way, x.planned(5), 0);
            }
        }
        x.way(0, 4, 200);
        x.way(0, 5, 200);
        for (int needy = 6; needy >= 1; needy--) {
            Check.text(x, "head 0 when people < " + (7 - needy) + ";");
            due("9: two of them far, needy " + needy, x.plan(2), 400 * Math.min(2, needy) + 4 * Math.max(0, needy - 2));
        }
        x.spring(0, 100, 0);
        x.tanker(1, 100, 999);
        x.way(1, 4, 200);
        x.way(1, 5, 199);
        for (int needy = 6; needy >= 1; needy -= 5) {
            Check.text(x, "head 0 when people < " + (7 - needy) + ";");
            due("9: a nearer tanker, needy " + needy, x.plan(1), 0);
            due("10: it is taken, needy " + needy, x.planned(5), 1);
        }
    }

    /** A plan goes by full as it is; what is given on the day goes by full behind the trip. */
    private static void wantAheadOfTheTrip() {
        WaterCarts x = villages(0);
        x.spring(0, 1000, 0);
        x.tanker(0, 10, 20);
        Check.text(x, "head 1 when full < 1;");
        due("9: it wants 10 as it is", x.plan(1), 0);
        due("10: a load of 10 is enough", x.planned(0), 0);
        x.days(1);
        due("11: with 10 of 1000 it wants 100", Bounds.look(x, 0, 5), 1);
        due("11: all that it has is given", Bounds.look(x, 0, 4), 10);
        WaterCarts y = villages(0);
        y.spring(0, 1000, 0);
        y.tanker(0, 99, 20);
        Check.text(y, "head 1 when 0 < full;");
        due("9: it wants 100 as it is", y.plan(1), 1);
        y.days(1);
        due("11: no trip, though 99 would have done", y.goes(0, 1), 0);
        due("11: it is dry", Bounds.look(y, 0, 5), 1);
    }

    private static void nothingComeYet() {
        WaterCarts x = villages(99);
        x.bore(0, 1, 1);
        x.drill(0, 1);
        x.spring(100, 1, 0);
        x.tanker(0, 1, 20);
        due("9: the well has not come", x.plan(0), 1);
        due("10: so it has a tanker", x.planned(0), 0);
        x.days(1);
        due("11: on the day the well has come", x.goes(0, 1), 0);
        due("11: and it is not dry", Bounds.look(x, 0, 5), 0);
        WaterCarts y = villages(0, 0);
        y.spring(100, 200, 0);
        y.tanker(0, 150, 999);
        due("9: of 200 the second has too little", y.plan(1), 1);
        y.days(1);
        due("11: a full pool does not grow", y.count(4), 1);
        due("20: 50 are left", y.flows(0, 1), 50);
        due("10: of 50 the first has enough, as things are now", y.planned(0), 0);
        due("9: the second has not", y.plan(1), 1);
        y.way(0, 0, 11);
        due("10: nearer, but with too little for it", y.planned(1), NONE);
        y.days(1);
        due("11: with the flow come there is enough for it", Bounds.look(y, 1, 8), 1);
        due("11: not for the first besides", Bounds.look(y, 0, 8), 1);
    }

    private static void planChangesNothing() {
        WaterCarts x = small();
        Check.text(x, "head 99 when 1;");
        due("9: there is a trip or none", x.plan(0), 1);
        String ahead = Bounds.state(x);
        for (int i = 0; i < 5; i++) {
            x.plan(i % 3);
            x.planned(0);
            x.foretold(0);
            x.want(0);
            x.best(9999);
            x.share(0);
        }
        Check.due("9: asking changes nothing", Bounds.state(x).equals(ahead), true);
    }

    private static long inTank(int tank, int in, int well) {
        WaterCarts x = new WaterCarts();
        x.village(10, 0, tank, in);
        Check.text(x, "head 0 when 1;");
        x.bore(0, 1, 1);
        x.drill(0, well);
        x.days(1);
        return Bounds.look(x, 0, 2);
    }

    private static void wellFillsTheTank() {
        due("11: a well of 0", inTank(100, 50, 0), 50);
        due("11: not full", inTank(100, 50, 49), 99);
        due("11: just full", inTank(100, 50, 50), 100);
        due("11: not beyond", inTank(100, 50, 51), 100);
        due("11: a full one", inTank(100, 100, 5000), 100);
        due("11: a tank of 1", inTank(1, 0, 5000), 1);
        WaterCarts x = new WaterCarts();
        x.village(1, 0, 100000, 60000);
        for (int i = 0; i < 10; i++) {
            x.bore(0, 1, 1);
            x.drill(i, 5000);
        }
        due("15: ten of 5000", Bounds.look(x, 0, 3), 50000);
        x.days(1);
        due("11: all at once, not beyond", Bounds.look(x, 0, 2), 99990);
    }

    private static void flowAheadOfTrips() {
        for (int flow = 99; flow <= 100; flow++) {
            WaterCarts x = villages(0);
            x.spring(flow, 100, 0);
            x.tanker(0, 100, 20);
            x.days(1);
            due("20: the pool is empty", x.flows(0, 1), 0);
            x.days(1);
            due("11: with a flow of " + flow, Bounds.look(x, 0, 5), flow < 100 ? 1 : 0);
        }
    }

    private static void givenOrDry() {
        int[] in = {0, 1, 99, 100, 101, 1000};
        for (int litres : in) {
            WaterCarts x = villages(litres);
            x.days(1);
            due("11: given of " + litres, Bounds.look(x, 0, 4), Math.min(100, litres));
            due("11: left of " + litres, Bounds.look(x, 0, 2), Math.max(0, litres - 100));
            due("11: dry with " + litres, Bounds.look(x, 0, 5), litres < 100 ? 1 : 0);
            due("22: dry with " + litres, x.count(4), litres < 100 ? 1 : 0);
            due("22: given with " + litres, x.count(5), Math.min(100, litres));
        }
    }

    private static void tripIsGivenOnTheDay() {
        WaterCarts x = villages(40);
        x.spring(0, 1000, 0);
        x.tanker(0, 60, 20);
        x.days(1);
        due("11: it is in the tank then", Bounds.look(x, 0, 4), 100);
        due("11: and none is left", Bounds.look(x, 0, 2), 0);
        due("11: it is not dry", Bounds.look(x, 0, 5), 0);
        due("19: a trip", Bounds.look(x, 0, 8), 1);
        due("21: litres brought", x.goes(0, 2), 60);
    }

    private static void dryInARow() {
        WaterCarts x = villages(100);
        int[][] due = {{0, 0, 0}, {1, 1, 1}, {1, 2, 2}, {0, 0, 2}, {1, 1, 3}};
        for (int day = 0; day < due.length; day++) {
            if (day == 3) {
                x.spring(0, 100, 0);
                x.tanker(0, 100, 20);
            }
            x.days(1);
            due("19: dry on day " + (day + 1), Bounds.look(x, 0, 5), due[day][0]);
            due("19: in a row on day " + (day + 1), Bounds.look(x, 0, 6), due[day][1]);
            due("19: in all on day " + (day + 1), Bounds.look(x, 0, 7), due[day][2]);
            due("22: dry on day " + (day + 1), x.count(4), due[day][0]);
        }
        WaterCarts y = villages(0);
        for (int i = 0; i < 13; i++) {
            y.days(30);
        }
        y.days(9);
        due("19: dry on all 399 days in a row", Bounds.look(y, 0, 6), 399);
        due("19: and in all", Bounds.look(y, 0, 7), 399);
    }

    /** What comes later has had no day yet. */
    private static void lateComers() {
        WaterCarts x = villages(0);
        x.days(3);
        x.village(10, 0, 1000, 150);
        due("19: given", Bounds.look(x, 1, 4), 0);
        due("19: dry", Bounds.look(x, 1, 5), 0);
        due("19: in a row", Bounds.look(x, 1, 6), 0);
        due("22: dry on the latest day", x.count(4), 1);
        due("12: foretold", x.foretold(1), 5);
        x.spring(0, 50, 0);
        x.tanker(0, 50, 20);
        due("21: no miles", x.goes(0, 0), 0);
        x.days(2);
        due("21: a trip on its second day", x.goes(0, 0), 20);
        due("19: one trip", Bounds.look(x, 1, 8), 1);
        due("19: never dry", Bounds.look(x, 1, 7), 0);
        x.days(1);
        due("21: none on the latest day", x.goes(0, 0), 0);
        due("21: in all", x.goes(0, 1), 20);
    }

    private static void sumsAtTheirMost() {
        WaterCarts x = new WaterCarts();
        for (int i = 0; i < 12; i++) {
            x.village(2000, 2000, 100000, 100000);
        }
        for (int i = 0; i < 10; i++) {
            x.bore(0, 1, 1);
            x.drill(i, 5000);
        }
        for (int i = 0; i < 4; i++) {
            x.spring(100000, 200000, 0);
            x.tanker(i, 20000, 999);
        }
        Check.text(x, "head 40 when 1; beast 10 when 1;");
        x.days(1);
        due("22: all is given", x.count(5), 12 * 100000);
        due("18: share", x.share(11), 5000);
        Check.text(x, "head 10 when 1; beast 0 when 1;");
        for (int i = 0; i < 13; i++) {
            x.days(30);
        }
        x.days(8);
        due("22: now", x.count(3), 399);
        long brought = 0;
        for (int i = 0; i < 4; i++) {
            brought += x.goes(i, 2);
        }
        due("21: six trips on each day behind the first", brought, 398L * 6 * 20000);
        due("22: given in all, with what the first had from its well", x.count(5), 12 * 100000 + brought + 398L * 20000);
        due("18: share of the first", x.share(0), 1000);
        due("19: the last was dry on each of them", Bounds.look(x, 11, 6), 398);
    }

    private static long foretold(int in, int people) {
        WaterCarts x = new WaterCarts();
        x.village(people, 0, 100000, in);
        return x.foretold(0);
    }

    private static void foretoldDays() {
        due("12: empty", foretold(0, 1), 1);
        due("12: one less than a day's", foretold(9, 1), 1);
        due("12: just a day's", foretold(10, 1), 2);
        due("12: one less than two days'", foretold(19, 1), 2);
        due("12: one less than 59 days'", foretold(589, 1), 59);
        due("12: just 59 days'", foretold(590, 1), 60);
        due("12: one less than 60 days'", foretold(599, 1), 60);
        due("12: just 60 days'", foretold(600, 1), NONE);
        due("12: more", foretold(601, 1), NONE);
        WaterCarts x = new WaterCarts();
        x.village(1, 0, 100000, 4589);
        for (int i = 0; i < 13; i++) {
            x.days(30);
        }
        due("12: at NOW 390 none of 60 days", x.foretold(0), NONE);
        x.days(8);
        due("12: at NOW 398 none of 60 days", x.foretold(0), NONE);
        x.days(1);
        due("12: at NOW 399 the 60th day", x.foretold(0), 459);
        WaterCarts y = new WaterCarts();
        y.village(1, 0, 100, 0);
        Check.text(y, "head 0 when 1;");
        due("12: who wants nothing is never dry", y.foretold(0), NONE);
    }

    private static long foretoldWithWell(int tank, int in, int well) {
        WaterCarts x = new WaterCarts();
        x.village(10, 0, tank, in);
        x.bore(0, 1, 1);
        x.drill(0, well);
        return x.foretold(0);
    }

    private static void foretoldByTheWell() {
        due("12: the well gives just a day's", foretoldWithWell(1000, 0, 100), NONE);
        due("12: the well gives one less", foretoldWithWell(1000, 0, 99), 1);
        due("12: one less, with one in the tank", foretoldWithWell(1000, 1, 99), 2);
        due("12: one less, with 59 in the tank", foretoldWithWell(1000, 59, 99), 60);
        due("12: one less, with 60 in the tank", foretoldWithWell(1000, 60, 99), NONE);
        due("12: a tank for one less", foretoldWithWell(99, 99, 5000), 1);
        due("12: a tank for just a day's", foretoldWithWell(100, 0, 5000), NONE);
        due("12: a full tank takes nothing more", foretoldWithWell(150, 150, 60), 3);
    }

    private static void foretoldByTheNextDay() {
        WaterCarts x = villages(300);
        Check.text(x, "head 20 when day = 1;");
        due("12: the want of the next day on all days", x.foretold(0), 2);
        x.days(1);
        due("12: told anew", x.foretold(0), 3);
        WaterCarts y = villages(300);
        Check.text(y, "head 5 when full = 30; head 99 when full < 30;");
        due("12: full as it is now", y.foretold(0), 7);
        y.spring(0, 1000, 0);
        y.tanker(0, 1000, 999);
        due("12: no trips", y.foretold(0), 7);
        String ahead = Bounds.state(y);
        y.foretold(0);
        Check.due("12: foretelling changes nothing", Bounds.state(y).equals(ahead), true);
    }
}
