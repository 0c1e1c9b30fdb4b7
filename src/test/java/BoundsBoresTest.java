/** The boundary cases of section 4: bores, the best set, dips, shares (promises 13 to 18). */
public final class BoundsBoresTest {
    private static final int NONE = Bounds.NONE;

    public static void main(String[] args) {
        boreRanges();
        tenBores();
        purses();
        costsUpToThePurse();
        mostWorth();
        worthGoesByPeople();
        equalWorth();
        equalCost();
        notTheDrilled();
        allTenAtTheirMost();
        drillRanges();
        drilledOnce();
        besidesTheWell();
        dipRanges();
        hundredDips();
        dipsOfEachTanker();
        atLeastThree();
        aboveWhatTheyMayErr();
        shortAtTheMost();
        shareAheadOfAny();
        shareOfFewDays();
        shareOfSeven();
        shareOverManyWeeks();
        shareIsCut();
        shareAtTheMost();
        shareOfLateComers();
        Check.end();
    }

    private static void due(String what, long got, long want) {
        Check.due(what, got, want);
    }

    private static WaterCarts villages(int... people) {
        WaterCarts x = new WaterCarts();
        for (int heads : people) {
            x.village(heads, 0, 100, 0);
        }
        return x;
    }

    private static WaterCarts withTanker() {
        WaterCarts x = villages(10);
        x.spring(0, 1000, 0);
        x.tanker(0, 10, 10);
        return x;
    }

    private static void boreRanges() {
        Bounds.Maker two = () -> villages(1, 2);
        Bounds.range("13: village", two, (x, n) -> x.bore(n, 5, 5), 0, 1, NONE);
        Bounds.range("13: chance", two, (x, n) -> x.bore(0, n, 5), 1, 1000, NONE);
        Bounds.range("13: cost", two, (x, n) -> x.bore(0, 5, n), 1, 1000, NONE);
        WaterCarts x = villages(1);
        due("13: refused", x.bore(0, 0, 1), NONE);
        due("13: the refused has no number", x.bore(0, 1, 1), 0);
        due("13: a second of the same village", x.bore(0, 1, 1), 1);
    }

    private static void tenBores() {
        WaterCarts x = villages(1, 2);
        Bounds.atMost("13: bores", x, (y, n) -> y.bore(n % 2, 1 + n, 1), 10);
        due("13: 10 are there", x.count(6), 10);
        due("15: the 10th can be drilled", Bounds.told(x.drill(9, 5)), Bounds.YES);
        due("15: no 11th can", Bounds.told(x.drill(10, 5)), Bounds.NO);
        due("13: no room by drilling", x.bore(0, 1, 1), NONE);
        due("13: nor with other numbers", x.bore(2, 0, 0), NONE);
    }

    private static WaterCarts withBores(int... chancesAndCosts) {
        WaterCarts x = villages(1);
        for (int i = 0; i + 1 < chancesAndCosts.length; i += 2) {
            x.bore(0, chancesAndCosts[i], chancesAndCosts[i + 1]);
        }
        return x;
    }

    private static void purses() {
        Bounds.range("14: purse", () -> withBores(5, 5, 6, 6), (x, n) -> x.best(n), 0, 9999, NONE);
        Bounds.range("14: purse without bores", WaterCarts::new, (x, n) -> x.best(n), 0, 9999, NONE);
        due("14: no bores, no purse", new WaterCarts().best(0), 0);
        due("14: no bores, the most purse", new WaterCarts().best(9999), 0);
    }

    private static void costsUpToThePurse() {
        due("14: a purse of 0", withBores(1, 1).best(0), 0);
        due("14: just the cost of 1", withBores(1, 1).best(1), 1);
        due("14: one less than 1000", withBores(1000, 1000).best(999), 0);
        due("14: just 1000", withBores(1000, 1000).best(1000), 1);
        due("14: one less than both", withBores(5, 30, 4, 20).best(49), 1);
        due("14: just both", withBores(5, 30, 4, 20).best(50), 3);
        due("14: one less than the dearer", withBores(5, 30, 4, 20).best(29), 2);
        due("14: one less than the cheaper", withBores(5, 30, 4, 20).best(19), 0);
    }

    private static void mostWorth() {
        due("14: one more worth", withBores(5, 10, 6, 10).best(10), 2);
        due("14: one less", withBores(6, 10, 5, 10).best(10), 1);
        due("14: two small ones above a large one", withBores(9, 10, 5, 5, 5, 5).best(10), 6);
        due("14: a large one above two small ones", withBores(11, 10, 5, 5, 5, 5).best(10), 1);
        due("14: more worth, however dear", withBores(1, 1, 2, 1000).best(1000), 2);
        due("14: the least worth is more than none", withBores(1, 1000).best(9999), 1);
    }

    private static void worthGoesByPeople() {
        WaterCarts x = villages(1, 2000);
        x.bore(0, 1000, 10);
        x.bore(1, 1, 10);
        due("14: 2000 times 1 is above 1 times 1000", x.best(10), 2);
        WaterCarts y = villages(1, 999);
        y.bore(0, 1000, 10);
        y.bore(1, 1, 10);
        due("14: 999 times 1 is not", y.best(10), 1);
        WaterCarts z = villages(1, 1000);
        z.bore(0, 1000, 10);
        z.bore(1, 1, 9);
        due("14: 1000 times 1 is equal, and cheaper", z.best(10), 2);
        WaterCarts beasts = new WaterCarts();
        beasts.village(1, 2000, 100, 0);
        beasts.village(2, 0, 100, 0);
        beasts.bore(0, 10, 10);
        beasts.bore(1, 10, 10);
        due("14: beasts do not count", beasts.best(10), 2);
    }

    private static void equalWorth() {
        due("14: the cheaper, though its number is larger", withBores(5, 11, 5, 10).best(11), 2);
        due("14: the cheaper, with the smaller number", withBores(5, 10, 5, 11).best(11), 1);
        due("14: one for two of as much worth", withBores(2, 5, 3, 6, 5, 10).best(11), 4);
        due("14: two for one of as much worth", withBores(5, 12, 2, 5, 3, 6).best(12), 6);
    }

    private static void equalCost() {
        due("14: the least number", withBores(5, 10, 5, 10).best(10), 1);
        due("14: the least number of three", withBores(5, 10, 5, 10, 5, 10).best(29), 3);
        due("14: 4 is less than 1 and 8 together", withBores(2, 4, 1, 1, 5, 10, 3, 6).best(10), 4);
        due("14: 3 is less than 4", withBores(2, 4, 3, 6, 5, 10).best(10), 3);
        due("14: 6 is less than 9", withBores(2, 4, 3, 5, 1, 1, 2, 2).best(6), 6);
    }

    private static void notTheDrilled() {
        WaterCarts x = withBores(5, 10, 4, 10, 3, 10);
        due("14: the first of them", x.best(10), 1);
        x.drill(0, 0);
        due("14: with that drilled the second", x.best(10), 2);
        due("14: both that are left", x.best(9999), 6);
        x.drill(2, 5000);
        due("14: the one that is left", x.best(9999), 2);
        x.drill(1, 1);
        due("14: none is left", x.best(9999), 0);
        due("14: for another purse NONE still", x.best(10000), NONE);
    }

    private static void allTenAtTheirMost() {
        WaterCarts x = new WaterCarts();
        x.village(2000, 0, 1, 0);
        for (int i = 0; i < 10; i++) {
            x.bore(0, 1000, 1000);
        }
        due("14: nine of ten", x.best(9999), 511);
        due("14: nine for just 9000", x.best(9000), 511);
        due("14: eight for one less", x.best(8999), 255);
        due("14: one", x.best(1000), 1);
        due("14: none", x.best(999), 0);
        WaterCarts y = new WaterCarts();
        y.village(2000, 0, 1, 0);
        for (int i = 0; i < 10; i++) {
            y.bore(0, 1000, i == 9 ? 999 : 1000);
        }
        due("14: all ten for 9999", y.best(9999), 1023);
        due("14: nine with the cheap one", y.best(9998), 767);
    }

    private static void drillRanges() {
        Bounds.Maker three = () -> withBores(1, 1, 1, 1, 1, 1);
        Bounds.range("15: bore", three, (x, n) -> Bounds.told(x.drill(n, 5)), 0, 2, Bounds.NO);
        Bounds.range("15: litres", three, (x, n) -> Bounds.told(x.drill(1, n)), 0, 5000, Bounds.NO);
    }

    private static void drilledOnce() {
        WaterCarts x = withBores(1, 1, 1, 1);
        due("15: refused litres", Bounds.told(x.drill(0, 5001)), Bounds.NO);
        due("15: leave it undrilled", Bounds.told(x.drill(0, 5000)), Bounds.YES);
        Bounds.refused("15: it is drilled", x, (y, n) -> Bounds.told(y.drill(0, n)), 5000, Bounds.NO);
        due("15: with 0 litres, too", Bounds.told(x.drill(1, 0)), Bounds.YES);
        Bounds.refused("15: it is drilled with 0", x, (y, n) -> Bounds.told(y.drill(1, n)), 5, Bounds.NO);
        due("15: the well", Bounds.look(x, 0, 3), 5000);
    }

    private static void besidesTheWell() {
        WaterCarts x = villages(1, 1);
        x.bore(0, 1, 1);
        x.bore(1, 1, 1);
        x.bore(0, 1, 1);
        x.drill(0, 30);
        due("15: of the first", Bounds.look(x, 0, 3), 30);
        due("15: not of the second", Bounds.look(x, 1, 3), 0);
        x.drill(1, 7);
        due("15: of the second", Bounds.look(x, 1, 3), 7);
        x.drill(2, 12);
        due("15: besides", Bounds.look(x, 0, 3), 42);
        x.days(1);
        due("11: it comes on the day", Bounds.look(x, 0, 2), 32);
        due("11: of the second all is given", Bounds.look(x, 1, 4), 7);
    }

    private static void dipRanges() {
        Bounds.Maker one = BoundsBoresTest::withTanker;
        Bounds.range("16: tanker", one, (x, n) -> x.dip(n, 5, 5, 5), 0, 0, NONE);
        Bounds.range("16: told", one, (x, n) -> x.dip(0, n, 5, 5), 0, 20000, NONE);
        Bounds.range("16: dipped", one, (x, n) -> x.dip(0, 5, n, 5), 0, 20000, NONE);
        Bounds.range("16: errs", one, (x, n) -> x.dip(0, 5, 5, n), 0, 2000, NONE);
        WaterCarts x = withTanker();
        due("16: more than the tanker holds may be told", x.dip(0, 20000, 20000, 2000), 1);
        due("16: refused", x.dip(0, 20001, 0, 0), NONE);
        due("16: the refused is not counted", x.dip(0, 0, 0, 0), 2);
    }

    private static void hundredDips() {
        WaterCarts x = withTanker();
        for (int i = 1; i <= 100; i++) {
            due("16: how many of it", x.dip(0, 1, 1, 0), i);
            due("22: how many there are", x.count(7), i);
        }
        Bounds.refused("16: a 101st", x, (y, n) -> y.dip(0, n, 0, 0), 20000, NONE);
        due("17: it changes nothing", x.isShort(0), 0);
        x.tanker(0, 1, 1);
        due("16: nor of another tanker", x.dip(1, 1, 1, 1), NONE);
    }

    private static void dipsOfEachTanker() {
        WaterCarts x = withTanker();
        for (int i = 0; i < 3; i++) {
            x.tanker(0, 1, 1);
        }
        for (int i = 0; i < 100; i++) {
            due("16: of four in turn", x.dip(i % 4, 10, 9, 0), i / 4 + 1);
        }
        due("16: a 101st of the last", x.dip(3, 10, 9, 0), NONE);
        due("22: 100 in all", x.count(7), 100);
        due("17: of the last", x.isShort(3), 1);
    }

    private static long shortOf(int... toldDippedErrs) {
        WaterCarts x = withTanker();
        for (int i = 0; i + 2 < toldDippedErrs.length; i += 3) {
            x.dip(0, toldDippedErrs[i], toldDippedErrs[i + 1], toldDippedErrs[i + 2]);
        }
        return x.isShort(0);
    }

    private static void atLeastThree() {
        due("17: no dip", shortOf(), 0);
        due("17: one", shortOf(20000, 0, 0), 0);
        due("17: two", shortOf(20000, 0, 0, 20000, 0, 0), 0);
        due("17: three", shortOf(20000, 0, 0, 20000, 0, 0, 0, 0, 0), 1);
        due("17: four", shortOf(1, 0, 0, 0, 0, 0, 0, 0, 0, 0, 0, 0), 1);
        WaterCarts x = withTanker();
        x.tanker(0, 1, 1);
        x.dip(0, 9, 0, 0);
        x.dip(0, 9, 0, 0);
        x.dip(1, 9, 0, 0);
        due("17: two of it and one of another", x.isShort(0), 0);
        x.dip(0, 20001, 0, 0);
        due("17: a refused one is not the third", x.isShort(0), 0);
        x.dip(0, 9, 9, 0);
        due("17: the third", x.isShort(0), 1);
    }

    private static void aboveWhatTheyMayErr() {
        due("17: nothing short, no doubt", shortOf(5, 5, 0, 5, 5, 0, 5, 5, 0), 0);
        due("17: one short, no doubt", shortOf(5, 5, 0, 5, 4, 0, 5, 5, 0), 1);
        due("17: one too much", shortOf(5, 5, 0, 5, 6, 0, 5, 5, 0), 0);
        due("17: just what they may err", shortOf(10, 9, 1, 10, 9, 1, 10, 9, 1), 0);
        due("17: one above", shortOf(10, 9, 1, 10, 9, 1, 10, 8, 1), 1);
        due("17: one below", shortOf(10, 9, 1, 10, 9, 1, 10, 10, 1), 0);
        due("17: the sums count, not each", shortOf(100, 0, 0, 0, 50, 20, 0, 0, 30), 0);
        due("17: the sums count, one above", shortOf(101, 0, 0, 0, 50, 20, 0, 0, 30), 1);
        due("17: what is too much makes up for it", shortOf(0, 20000, 0, 20000, 0, 0, 0, 0, 0), 0);
    }

    private static void shortAtTheMost() {
        WaterCarts x = withTanker();
        for (int i = 0; i < 99; i++) {
            x.dip(0, 20000, 18000, 2000);
        }
        due("17: 99 times just the most that a dip may err", x.isShort(0), 0);
        x.dip(0, 20000, 17999, 2000);
        due("17: one litre above on the 100th", x.isShort(0), 1);
        WaterCarts y = withTanker();
        WaterCarts z = withTanker();
        for (int i = 0; i < 100; i++) {
            y.dip(0, 20000, 0, 0);
            z.dip(0, 0, 20000, 2000);
        }
        due("17: all short", y.isShort(0), 1);
        due("17: all too much", z.isShort(0), 0);
    }

    private static void shareAheadOfAny() {
        WaterCarts x = new WaterCarts();
        x.village(1, 0, 1000, 1000);
        due("18: ahead of any day", x.share(0), 0);
        x.days(0);
        due("18: 0 days are none", x.share(0), 0);
        x.days(1);
        due("18: a day", x.share(0), 1000);
    }

    private static void shareOfFewDays() {
        WaterCarts x = new WaterCarts();
        x.village(1, 0, 100000, 10);
        for (int day = 1; day <= 6; day++) {
            x.days(1);
            due("18: as many as went by, " + day, x.share(0), 1000 / day);
        }
        x.days(1);
        due("18: seven", x.share(0), 1000 / 7);
        x.days(1);
        due("18: the first is not of the last seven", x.share(0), 0);
    }

    private static void shareOfSeven() {
        WaterCarts x = new WaterCarts();
        x.village(1, 0, 100000, 100000);
        for (int day = 1; day <= 30; day++) {
            Check.text(x, "head " + day + " when 1;");
            x.days(1);
            int first = Math.max(1, day - 6);
            int sum = (first + day) * (day - first + 1) / 2;
            due("18: the last seven on day " + day, x.share(0), sum * 100 / Math.min(7, day));
        }
    }

    /** What is given on one day of many leaves the share on the seventh day behind it. */
    private static void shareOverManyWeeks() {
        WaterCarts x = new WaterCarts();
        x.village(1, 0, 100000, 100000);
        Check.text(x, "head 70 when day = 391; head 7 when day = 395; head 0 when 1;");
        for (int i = 0; i < 13; i++) {
            x.days(30);
            due("18: nothing by " + x.count(3), x.share(0), 0);
        }
        int[] due = {1000, 1000, 1000, 1000, 1100, 1100, 1100, 100, 100};
        for (int day = 391; day <= 399; day++) {
            x.days(1);
            due("18: on day " + day, x.share(0), due[day - 391]);
        }
    }

    private static long shareOnDayOne(int people, int litres) {
        WaterCarts x = new WaterCarts();
        x.village(people, 0, 100000, litres);
        x.days(1);
        return x.share(0);
    }

    private static void shareIsCut() {
        due("18: nothing given", shareOnDayOne(3, 0), 0);
        due("18: 33.3", shareOnDayOne(3, 1), 33);
        due("18: 66.6", shareOnDayOne(3, 2), 66);
        due("18: 100", shareOnDayOne(3, 3), 100);
        due("18: less than 1", shareOnDayOne(101, 1), 0);
        due("18: just 1", shareOnDayOne(100, 1), 1);
        due("18: 0.05 of 2000", shareOnDayOne(2000, 1), 0);
        due("18: 0.95 of 2000", shareOnDayOne(2000, 19), 0);
        due("18: just 1 of 2000", shareOnDayOne(2000, 20), 1);
    }

    private static void shareAtTheMost() {
        WaterCarts x = new WaterCarts();
        x.village(1, 2000, 100000, 100000);
        Check.text(x, "head 0 when 1; beast 50 when 1;");
        x.days(1);
        due("18: the beasts' litres by the people alone", x.share(0), 10000000);
        x.days(1);
        due("18: half of it on the second day", x.share(0), 5000000);
        x.days(5);
        due("18: a seventh on the seventh", x.share(0), 10000000 / 7);
        x.days(1);
        due("18: gone on the eighth", x.share(0), 0);
        WaterCarts y = new WaterCarts();
        y.village(1, 2000, 100000, 100000);
        for (int i = 0; i < 10; i++) {
            y.bore(0, 1, 1);
            y.drill(i, 5000);
        }
        y.days(8);
        due("18: 40010 litres on each of seven days", y.share(0), 4001000);
    }

    /** The days that went by are those of all, so a village that came later has had nothing on some of them. */
    private static void shareOfLateComers() {
        WaterCarts x = new WaterCarts();
        x.days(3);
        x.village(1, 0, 100000, 100000);
        due("18: nothing yet", x.share(0), 0);
        x.days(1);
        due("18: one of four days", x.share(0), 250);
        x.days(3);
        due("18: four of seven days", x.share(0), 4000 / 7);
        x.days(3);
        due("18: seven of seven", x.share(0), 1000);
    }
}
