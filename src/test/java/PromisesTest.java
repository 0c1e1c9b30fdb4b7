/** Each promise of the document by itself: ordinary inputs, the edges, wrong inputs. */
public final class PromisesTest {
    private static final int NONE = -1;
    private static final int[] WILD = {Integer.MIN_VALUE, -1000000, -1, Integer.MAX_VALUE};

    public static void main(String[] args) {
        promise01NewObject();
        promise02Village();
        promise03Spring();
        promise04Tanker();
        promise05Way();
        promise06Feed();
        promise07Text();
        promise07Faults();
        promise07Limits();
        promise08Want();
        promise08WantOverDays();
        promise09Plan();
        promise09PlanOfSix();
        promise10Planned();
        promise10LeastTanker();
        promise11Days();
        promise11OneDay();
        promise12Foretold();
        promise13Bore();
        promise14Best();
        promise15Drill();
        promise16Dip();
        promise17IsShort();
        promise18Share();
        promise19Look();
        promise20Flows();
        promise21Goes();
        promise22Count();
        fullHouse();
        Check.end();
    }

    private static void due(String what, long got, long want) {
        Check.due(what, got, want);
    }

    private static void due(String what, boolean got, boolean want) {
        Check.due(what, got, want);
    }

    private static long look(WaterCarts x, int village, int what) {
        return Bounds.look(x, village, what);
    }

    private static void promise01NewObject() {
        WaterCarts x = new WaterCarts();
        for (int what = 0; what <= 9; what++) {
            due("1: count(" + what + ") of a new one", x.count(what), 0);
        }
        due("1: plan(0)", x.plan(0), 0);
        due("1: plan(1)", x.plan(1), 0);
        due("1: plan(2)", x.plan(2), 0);
        due("1: best", x.best(9999), 0);
        due("1: want", x.want(0), NONE);
        due("1: look", look(x, 0, 0), Bounds.THROWN);
        due("1: flows", x.flows(0, 0), NONE);
        due("1: goes", x.goes(0, 0), NONE);
        due("1: text of an empty tape", x.text(), 0);
        WaterCarts y = new WaterCarts();
        y.village(1, 1, 1, 1);
        due("1: objects stand apart", x.count(0), 0);
        due("1: NONE", WaterCarts.NONE, -1);
    }

    private static void promise02Village() {
        WaterCarts x = new WaterCarts();
        due("2: least", x.village(1, 0, 1, 0), 0);
        due("2: most", x.village(2000, 2000, 100000, 100000), 1);
        due("2: people 0", x.village(0, 0, 1, 0), NONE);
        due("2: people 2001", x.village(2001, 0, 1, 0), NONE);
        due("2: beasts -1", x.village(1, -1, 1, 0), NONE);
        due("2: beasts 2001", x.village(1, 2001, 1, 0), NONE);
        due("2: tank 0", x.village(1, 0, 0, 0), NONE);
        due("2: tank 100001", x.village(1, 0, 100001, 0), NONE);
        due("2: in -1", x.village(1, 0, 1, -1), NONE);
        due("2: in above the tank", x.village(1, 0, 5, 6), NONE);
        for (int wild : WILD) {
            due("2: wild people", x.village(wild, 0, 1, 0), NONE);
            due("2: wild beasts", x.village(1, wild, 1, 0), NONE);
            due("2: wild tank", x.village(1, 0, wild, 0), NONE);
            due("2: wild in", x.village(1, 0, 1, wild), NONE);
        }
        due("2: refused ones are not counted", x.count(0), 2);
        for (int i = 2; i < 12; i++) {
            due("2: number", x.village(10 + i, i, 100 + i, 50 + i), i);
        }
        due("2: a 13th", x.village(1, 0, 1, 0), NONE);
        due("2: 12 are there", x.count(0), 12);
        due("2: people of 11", look(x, 11, 0), 21);
        due("2: beasts of 11", look(x, 11, 1), 11);
        due("2: in of 11", look(x, 11, 2), 61);
        due("2: well of 11", look(x, 11, 3), 0);
    }

    private static void promise03Spring() {
        WaterCarts x = new WaterCarts();
        due("3: least", x.spring(0, 1, 0), 0);
        due("3: most", x.spring(100000, 200000, 100), 1);
        due("3: flow -1", x.spring(-1, 1, 0), NONE);
        due("3: flow 100001", x.spring(100001, 1, 0), NONE);
        due("3: pool 0", x.spring(0, 0, 0), NONE);
        due("3: pool 200001", x.spring(0, 200001, 0), NONE);
        due("3: fall -1", x.spring(0, 1, -1), NONE);
        due("3: fall 101", x.spring(0, 1, 101), NONE);
        for (int wild : WILD) {
            due("3: wild flow", x.spring(wild, 1, 0), NONE);
            due("3: wild pool", x.spring(0, wild, 0), NONE);
            due("3: wild fall", x.spring(0, 1, wild), NONE);
        }
        due("3: full at first", x.flows(1, 1), 200000);
        due("3: a third", x.spring(1, 1, 1), 2);
        due("3: a fourth", x.spring(1, 1, 1), 3);
        due("3: a fifth", x.spring(1, 1, 1), NONE);
        due("3: 4 are there", x.count(1), 4);
    }

    private static void promise04Tanker() {
        WaterCarts x = new WaterCarts();
        due("4: no spring", x.tanker(0, 1, 0), NONE);
        x.spring(0, 1, 0);
        x.spring(0, 1, 0);
        due("4: least", x.tanker(0, 1, 0), 0);
        due("4: most", x.tanker(1, 20000, 999), 1);
        due("4: spring 2", x.tanker(2, 1, 0), NONE);
        due("4: holds 0", x.tanker(0, 0, 0), NONE);
        due("4: holds 20001", x.tanker(0, 20001, 0), NONE);
        due("4: miles -1", x.tanker(0, 1, -1), NONE);
        due("4: miles 1000", x.tanker(0, 1, 1000), NONE);
        for (int wild : WILD) {
            due("4: wild spring", x.tanker(wild, 1, 0), NONE);
            due("4: wild holds", x.tanker(0, wild, 0), NONE);
            due("4: wild miles", x.tanker(0, 1, wild), NONE);
        }
        due("4: a third", x.tanker(1, 1, 1), 2);
        due("4: a fourth", x.tanker(1, 1, 1), 3);
        due("4: a fifth", x.tanker(1, 1, 1), NONE);
        due("4: 4 are there", x.count(2), 4);
    }

    private static void promise05Way() {
        WaterCarts x = new WaterCarts();
        due("5: nothing there", x.way(0, 0, 10), false);
        x.village(10, 0, 1000, 0);
        due("5: no spring", x.way(0, 0, 10), false);
        x.spring(0, 5000, 0);
        x.tanker(0, 500, 999);
        due("5: 10 miles at first, there and back", x.plan(2), 20);
        due("5: 1 mile", x.way(0, 0, 1), true);
        due("5: 1 mile, there and back", x.plan(2), 2);
        due("5: 200 miles", x.way(0, 0, 200), true);
        due("5: 200 miles, there and back", x.plan(2), 400);
        due("5: 0 miles", x.way(0, 0, 0), false);
        due("5: 201 miles", x.way(0, 0, 201), false);
        due("5: village 1", x.way(0, 1, 5), false);
        due("5: spring 1", x.way(1, 0, 5), false);
        for (int wild : WILD) {
            due("5: wild spring", x.way(wild, 0, 5), false);
            due("5: wild village", x.way(0, wild, 5), false);
            due("5: wild miles", x.way(0, 0, wild), false);
        }
        due("5: refused ones change nothing", x.plan(2), 400);
        x.spring(0, 5000, 0);
        x.tanker(1, 500, 999);
        due("5: another spring has its own way", x.plan(2), 20);
        due("5: of that one", x.planned(0), 1);
    }

    private static void promise06Feed() {
        WaterCarts x = new WaterCarts();
        due("6: nothing but zeros", x.feed(0, 0, 0), 0);
        due("6: 24 blanks", x.feed(0x2020202020202020L, 0x2020202020202020L, 0x2020202020202020L), 24);
        due("6: counted", x.count(9), 24);
        due("6: taken", x.text(), 0);
        due("6: empty then", x.count(9), 0);
        due("6: 10, 32, 126 stay, 9, 11, 31, 127, 128 go", x.feed(0x0a207e090b1f7f80L, 0, 0), 3);
        due("6: 255 and 0 go, 33 stays", x.feed(-1L, 0xff00ff00ff00ff21L, -256L), 4);
        x.text();
        Check.feed(x, "head 7 when");
        due("6: behind what is there", Check.feed(x, " 1 ;"), 15);
        due("6: in the order of the bytes", x.text(), 0);
        x.village(1, 0, 1, 0);
        due("6: as a text", x.want(0), 7);
        int there = 0;
        for (int i = 0; i < 24; i++) {
            there = x.feed(0x3b3b3b3b3b3b3b3bL, 0x3b3b3b3b3b3b3b3bL, 0x3b3b3b3b3b3b3b3bL);
        }
        due("6: 576", there, 576);
        due("6: 599", x.feed(0x003b3b3b3b3b3b3bL, 0x3b3b3b3b3b3b3b3bL, 0x3b3b3b3b3b3b3b3bL), 599);
        due("6: not beyond 600", x.feed(0x3b3b3b3b3b3b3b3bL, 0x3b3b3b3b3b3b3b3bL, 0), 600);
        due("6: full", x.feed(0x3b3b3b3b3b3b3b3bL, 0, 0), 600);
        due("6: the text before stays until it is read", x.want(0), 7);
        due("6: 600 tokens are read", x.text(), 1);
        due("6: and taken", x.count(9), 0);
    }

    private static void promise07Text() {
        WaterCarts x = new WaterCarts();
        x.village(1, 0, 1000, 0);
        due("7: a line", Check.text(x, "head 3 when 1;"), 0);
        due("7: one line", x.count(8), 1);
        due("7: the tape is taken", x.count(9), 0);
        due("7: want", x.want(0), 3);
        due("7: without blanks", Check.text(x, "head4when(1=1)and 2;"), 0);
        due("7: in place of the one there was", x.want(0), 4);
        due("7: a fault", Check.text(x, "head 5 when 1; head"), 1 + 16 * 19);
        due("7: the tape is taken with a fault, too", x.count(9), 0);
        due("7: the text there was stays", x.want(0), 4);
        due("7: its lines stay", x.count(8), 1);
        due("7: line feeds are blanks", Check.text(x, "\nhead\n6\nwhen\n1\n;\n"), 0);
        due("7: want then", x.want(0), 6);
        due("7: blanks alone", Check.text(x, " \n "), 0);
        due("7: no lines", x.count(8), 0);
        due("7: as usual again", x.want(0), 10);
        due("7: 4 digits", Check.text(x, "head 0099 when 9999;"), 0);
        due("7: 99 litres", x.want(0), 99);
        due("7: nothing on the tape takes the text away", x.text(), 0);
        due("7: then none", x.count(8), 0);
    }

    private static void fault(String text, int kind, int place) {
        WaterCarts x = new WaterCarts();
        due("7: fault of \"" + text + "\"", Check.text(x, text), kind + 16 * place);
        due("7: no lines by \"" + text + "\"", x.count(8), 0);
    }

    private static void promise07Faults() {
        fault("heads 1 when 1;", 1, 0);
        fault("  ;", 1, 2);
        fault("head", 1, 4);
        fault("head  ", 1, 6);
        fault("head head", 1, 5);
        fault("head 12345 when 1;", 1, 5);
        fault("head 100 when 1;", 4, 5);
        fault("head 9999 foo", 4, 5);
        fault("beast 100 when 1;", 4, 6);
        fault("head 5 then 1;", 1, 7);
        fault("head 5 when;", 1, 11);
        fault("head 5 when ()", 1, 13);
        fault("head 5 when -1;", 1, 12);
        fault("head 5 when 1 +;", 1, 15);
        fault("head 5 when 1 + + 1;", 1, 16);
        fault("head 5 when 1 = 1 = 1;", 1, 18);
        fault("head 5 when 1 < 1 = 1;", 1, 18);
        fault("head 5 when (1;", 1, 14);
        fault("head 5 when 1);", 1, 13);
        fault("head 5 when 1 1;", 1, 14);
        fault("head 5 when day people;", 1, 16);
        fault("head 5 when and 1;", 1, 12);
        fault("head 5 when head;", 1, 12);
        fault("head 5 when 1 and;", 1, 17);
        fault("head 5 when Day;", 1, 12);
        fault("head 5 when 1 > 1;", 1, 14);
        fault("head 5 when 1 * 1;", 1, 14);
        fault("head 5 when daydaydayd;", 1, 12);
        fault("head 5 when 12345;", 1, 12);
        fault("head 5 when 1; beasts 5 when 1;", 1, 15);
        fault("head 5 when 1;;", 1, 14);
        fault("head 5 when 1 and when;", 1, 18);
        fault("headx 5 when 1;", 1, 0);
        fault("head 5when 5and 6;head 100", 4, 23);
        fault("head 5 when 1", 1, 13);
        fault("head 5 when 1 \n", 1, 15);
        fault("~", 1, 0);
    }

    private static void promise07Limits() {
        WaterCarts x = new WaterCarts();
        due("7: 5 within one another", Check.text(x, "head 1 when ((((1))));"), 0);
        due("7: a part within 5", Check.text(x, "head 1 when (((((1)))));"), 5 + 16 * 17);
        due("7: a bracket within 5", Check.text(x, "head 1 when (((((("), 5 + 16 * 17);
        due("7: no part within 5", Check.text(x, "head 1 when (((((;"), 1 + 16 * 17);
        due("7: a long number within 5", Check.text(x, "head 1 when (((((12345"), 1 + 16 * 17);
        due("7: the end within 5", Check.text(x, "head 1 when (((((  "), 1 + 16 * 19);
        due("7: a fact within 5", Check.text(x, "head 1 when ((((1+(day))))"), 5 + 16 * 19);
        due("7: brackets side by side", Check.text(x, "head 1 when (((1)))+(((1)))<((((2))));"), 0);
        String line = "head 1 when 1;";
        String sixteen = line.repeat(16);
        due("7: 16 lines", Check.text(x, sixteen), 0);
        due("7: 16 lines stand", x.count(8), 16);
        due("7: a 17th", Check.text(x, sixteen + " beast 100 when 1;"), 5 + 16 * 225);
        due("7: no 17th, but a word", Check.text(x, sixteen + "when"), 1 + 16 * 224);
        due("7: a fault ahead of the 17th", Check.text(x, line.repeat(15) + "head 1 when 1<1<1;" + line), 1 + 16 * 225);
        due("7: blanks behind the 16th", Check.text(x, sixteen + "  "), 0);
        String full = "head 1 when 1" + "+1".repeat(293) + ";";
        due("7: 600 signs", Check.feed(x, full), 600);
        due("7: are a text", x.text(), 0);
        due("7: a fault at the end of 600", Check.text(x, "head 1 when 1" + " ".repeat(587)), 1 + 16 * 600);
    }

    private static int wanted(String text) {
        WaterCarts x = new WaterCarts();
        x.village(30, 7, 1000, 259);
        due("8: fault of " + text, Check.text(x, text), 0);
        return x.want(0);
    }

    private static void promise08Want() {
        due("8: no orders", wanted(""), 30 * 10 + 7 * 20);
        due("8: head", wanted("head 5 when 1;"), 30 * 5 + 7 * 20);
        due("8: beast", wanted("beast 5 when 1;"), 30 * 10 + 7 * 5);
        due("8: the first of them", wanted("head 1 when 0; head 2 when 1; head 3 when 1; beast 4 when 1; beast 9 when 1;"), 30 * 2 + 7 * 4);
        due("8: none of them", wanted("head 1 when 0; beast 4 when 1 - 1;"), 440);
        due("8: a value below 0 is not 0", wanted("head 1 when 1 - 2;"), 30 + 140);
        due("8: day is the next", wanted("head 1 when day = 1; beast 0 when day;"), 30);
        due("8: people", wanted("head 1 when people = 30; beast 1 when people < 31;"), 37);
        due("8: beasts", wanted("head 1 when beasts = 7; beast 1 when beasts < 7;"), 30 + 140);
        due("8: days", wanted("head 1 when days; beast 1 when days = 0;"), 307);
        due("8: full, cut", wanted("head 1 when full = 25; beast 1 when 25 < full;"), 30 + 140);
        due("8: dry", wanted("head 1 when dry = 0; beast 1 when dry;"), 30 + 140);
        due("8: and", wanted("head 1 when 2 and 4; beast 1 when 2 and 0;"), 30 + 140);
        due("8: and is 1", wanted("head 1 when (2 and 4) = 1; beast 1 when (0 and 4) = 0;"), 37);
        due("8: < and = are 1 or 0", wanted("head 1 when (1 < 2) + (2 = 2) = 2; beast 1 when (2 < 1) + (2 < 2) + (1 = 2);"), 30 + 140);
        due("8: from the left", wanted("head 1 when 9 - 3 - 2 = 4; beast 1 when 9 - (3 - 2) = 8;"), 37);
        due("8: and last", wanted("head 1 when 1 = 1 and 0 < 1 and 5; beast 1 when 0 and 1 = 0;"), 30 + 140);
        due("8: a bracket keeps its value", wanted("head 1 when (2 + 3) = 5; beast 1 when ((5)) = 5;"), 37);
        due("8: 0 litres", wanted("head 0 when 1; beast 0 when 1;"), 0);
        WaterCarts x = new WaterCarts();
        x.village(2000, 2000, 100000, 0);
        Check.text(x, "head 99 when 1; beast 99 when 1;");
        due("8: the most", x.want(0), 396000);
        due("8: village 1", x.want(1), NONE);
        for (int wild : WILD) {
            due("8: wild", x.want(wild), NONE);
        }
    }

    private static void promise08WantOverDays() {
        WaterCarts x = new WaterCarts();
        x.village(10, 0, 1000, 150);
        x.village(10, 0, 1000, 1000);
        Check.text(x, "head 1 when dry = 2; head 20 when days = 2; head 7 when dry = 1 and day = 3;");
        due("8: day 0, first", x.want(0), 100);
        x.days(1);
        due("8: none dry yet", x.count(4), 0);
        x.days(1);
        due("8: one dry", x.count(4), 1);
        due("8: dry on the day ahead", x.want(0), 70);
        due("8: of another, too", x.want(1), 70);
        x.days(1);
        due("8: dry in a row", x.want(0), 200);
        due("8: not the other", x.want(1), 100);
        due("8: given by the orders of that day", look(x, 1, 4), 70);
    }

    private static void promise09Plan() {
        WaterCarts x = new WaterCarts();
        x.village(10, 0, 1000, 99);
        x.village(10, 0, 1000, 100);
        x.village(10, 0, 50, 0);
        due("9: needy have less than they want", x.plan(0), 2);
        due("9: without tankers all stay so", x.plan(1), 2);
        due("9: and no miles", x.plan(2), 0);
        x.spring(500, 100, 0);
        x.tanker(0, 1, 20);
        due("9: a small tank can't be filled up to it", x.plan(1), 1);
        due("9: one trip, there and back", x.plan(2), 20);
        due("9: no trip that helps nobody", x.planned(2), NONE);
        x.way(0, 0, 11);
        due("9: the way is beyond its miles", x.plan(1), 2);
        due("9: no miles then", x.plan(2), 0);
        due("9: what 3", x.plan(3), NONE);
        for (int wild : WILD) {
            due("9: wild", x.plan(wild), NONE);
        }
        due("9: a plan changes nothing", x.flows(0, 1), 100);
        due("9: not the tank, too", look(x, 0, 2), 99);
        WaterCarts y = new WaterCarts();
        y.village(10, 0, 1000, 0);
        y.village(10, 0, 1000, 60);
        y.spring(1000, 100, 0);
        y.tanker(0, 1000, 40);
        due("9: flows not yet come: the pool serves one", y.plan(1), 1);
        due("9: the first by numbers", y.planned(0), 0);
        y.way(0, 1, 9);
        due("9: least miles", y.plan(2), 18);
        due("9: of the nearer", y.planned(1), 0);
        y.bore(0, 1, 1);
        y.drill(0, 5000);
        due("9: wells not yet come", y.plan(0), 2);
        y.spring(0, 40, 0);
        y.tanker(1, 40, 999);
        y.way(1, 1, 200);
        due("9: fewest dry ahead of least miles", y.plan(1), 0);
        due("9: miles then", y.plan(2), 420);
        due("9: a load as small as may be", y.planned(1), 1);
    }

    private static void promise09PlanOfSix() {
        WaterCarts x = new WaterCarts();
        for (int i = 0; i < 12; i++) {
            x.village(10, 0, 1000, i % 3 == 0 ? 100 : 0);
        }
        x.spring(0, 100000, 0);
        x.tanker(0, 1000, 999);
        due("9: all the needy are counted", x.plan(0), 8);
        due("9: all of the first 6 are served", x.plan(1), 0);
        due("9: six trips", x.plan(2), 120);
        due("9: the sixth", x.planned(8), 0);
        due("9: not the seventh", x.planned(10), NONE);
        x.days(1);
        due("9: two stay dry", x.count(4), 2);
        due("9: one tanker makes all the trips", x.goes(0, 0), 120);
        WaterCarts y = new WaterCarts();
        for (int i = 0; i < 12; i++) {
            y.village(1, 0, 10, 0);
            due("9: needy up to " + i, y.plan(0), i + 1);
            due("9: of the first 6 without a tanker", y.plan(1), Math.min(6, i + 1));
            due("9: no miles without a tanker", y.plan(2), 0);
        }
    }

    private static void promise10Planned() {
        WaterCarts x = new WaterCarts();
        x.village(10, 0, 1000, 0);
        x.village(10, 0, 1000, 500);
        due("10: no tanker", x.planned(0), NONE);
        x.spring(0, 1000, 0);
        x.tanker(0, 99, 999);
        due("10: a tanker too small", x.planned(0), NONE);
        x.tanker(0, 100, 19);
        due("10: a tanker with too few miles", x.planned(0), NONE);
        x.tanker(0, 100, 20);
        due("10: one that can", x.planned(0), 2);
        due("10: not needy", x.planned(1), NONE);
        due("10: village 2", x.planned(2), NONE);
        for (int wild : WILD) {
            due("10: wild", x.planned(wild), NONE);
        }
        Check.text(x, "head 0 when 1;");
        due("10: not needy by the orders", x.planned(0), NONE);
        WaterCarts y = new WaterCarts();
        y.village(10, 0, 100, 0);
        y.spring(0, 1000, 0);
        y.tanker(0, 100, 20);
        Check.text(y, "head 5 when full = 0;");
        due("10: full as it is ahead of the trip", y.planned(0), 0);
        y.days(1);
        due("10: full behind the trip counts for what is given", look(y, 0, 4), 100);
    }

    private static void promise10LeastTanker() {
        WaterCarts x = new WaterCarts();
        for (int i = 0; i < 3; i++) {
            x.village(10, 0, 1000, 0);
        }
        x.spring(0, 10000, 0);
        x.tanker(0, 1000, 20);
        x.tanker(0, 1000, 40);
        due("10: all are served", x.plan(1), 0);
        due("10: the first has the least tanker", x.planned(0), 0);
        due("10: the second then", x.planned(1), 1);
        due("10: the third then", x.planned(2), 1);
        x.village(10, 0, 1000, 0);
        due("10: one is left", x.plan(1), 1);
        due("10: none is the last", x.planned(3), NONE);
        due("10: ahead of it the least", x.planned(2), 1);
        WaterCarts y = new WaterCarts();
        y.village(10, 0, 5000, 0);
        y.village(10, 0, 5000, 0);
        y.spring(0, 150, 0);
        y.tanker(0, 150, 999);
        y.tanker(0, 50, 999);
        due("10: a load takes all that it holds", y.plan(1), 1);
        y.tanker(0, 100, 999);
        due("10: the pool has not enough for both", y.plan(1), 1);
        due("10: the first by the least tanker", y.planned(0), 0);
        y.spring(0, 200, 0);
        y.tanker(1, 100, 999);
        due("10: another spring", y.plan(1), 0);
        due("10: the first", y.planned(0), 0);
        due("10: the second", y.planned(1), 3);
    }

    private static void promise11Days() {
        WaterCarts x = new WaterCarts();
        due("11: none", x.days(0), 0);
        due("11: 30", x.days(30), 30);
        due("11: 31", x.days(31), NONE);
        due("11: -1", x.days(-1), NONE);
        for (int wild : WILD) {
            due("11: wild", x.days(wild), NONE);
        }
        due("11: refused ones do not go by", x.count(3), 30);
        for (int i = 2; i <= 13; i++) {
            due("11: 30 more", x.days(30), 30 * i);
        }
        due("11: beyond 399", x.days(10), NONE);
        due("11: still 390", x.count(3), 390);
        due("11: to 399", x.days(9), 399);
        due("11: none beyond", x.days(1), NONE);
        due("11: 0 at the end", x.days(0), 399);
        x.village(10, 0, 1000, 1000);
        Check.text(x, "head 1 when day = 400;");
        due("11: the day that comes", x.want(0), 10);
    }

    private static void promise11OneDay() {
        WaterCarts x = new WaterCarts();
        x.village(10, 0, 150, 100);
        x.village(10, 0, 120, 0);
        x.village(10, 0, 5000, 30);
        x.spring(50, 100, 0);
        x.tanker(0, 1000, 999);
        x.bore(0, 1, 1);
        x.drill(0, 90);
        x.days(1);
        due("11: the well fills no more than the tank", look(x, 0, 2), 50);
        due("11: the tanker fills, and the wanted is given", look(x, 1, 2), 0);
        due("11: the pool had 100", look(x, 1, 4), 100);
        due("11: the pool is empty", x.flows(0, 1), 0);
        due("11: the third is dry", look(x, 2, 5), 1);
        due("11: all that it has is given", look(x, 2, 4), 30);
        due("11: it is empty", look(x, 2, 2), 0);
        due("11: given in all", x.count(5), 230);
        x.days(1);
        due("11: the flow comes ahead of the trips", x.flows(0, 1), 50);
        due("11: too little for any: no trip", x.goes(0, 0), 0);
        due("11: two are dry", x.count(4), 2);
        x.days(1);
        due("11: then a trip again", look(x, 1, 8), 2);
        due("11: no longer dry in a row", look(x, 1, 6), 0);
        WaterCarts y = new WaterCarts();
        y.village(10, 0, 110, 50);
        y.spring(0, 1000, 0);
        y.tanker(0, 1000, 999);
        y.days(1);
        due("11: no more than there is room for", y.goes(0, 2), 60);
        due("11: the pool has the rest", y.flows(0, 1), 940);
        due("11: what is left", look(y, 0, 2), 10);
        WaterCarts z = new WaterCarts();
        z.village(10, 0, 1000, 60);
        z.spring(0, 1000, 0);
        z.tanker(0, 1000, 999);
        z.bore(0, 1, 1);
        z.drill(0, 40);
        due("11: ahead of the well a trip is planned", z.planned(0), 0);
        z.days(1);
        due("11: the plan is made when the wells have given", z.goes(0, 1), 0);
    }

    private static void promise12Foretold() {
        WaterCarts x = new WaterCarts();
        x.village(10, 0, 100000, 6000);
        x.village(10, 0, 100000, 5999);
        x.village(10, 0, 100000, 99);
        x.village(10, 0, 100000, 100);
        due("12: enough for 60 days", x.foretold(0), NONE);
        due("12: on the 60th", x.foretold(1), 60);
        due("12: on the first", x.foretold(2), 1);
        due("12: on the second", x.foretold(3), 2);
        due("12: village 4", x.foretold(4), NONE);
        for (int wild : WILD) {
            due("12: wild", x.foretold(wild), NONE);
        }
        x.days(1);
        due("12: a day later", x.foretold(0), 61);
        due("12: the same day", x.foretold(1), 60);
        due("12: the day that comes", x.foretold(2), 2);
        x.bore(2, 1, 1);
        x.drill(0, 100);
        due("12: the well gives", x.foretold(2), NONE);
        x.spring(0, 1000, 0);
        x.tanker(0, 1000, 999);
        due("12: no trips are foretold", x.foretold(3), 2);
        Check.text(x, "head 20 when day = 2 and full = 5; head 0 when days;");
        due("12: the want of the next day on all days", x.foretold(0), 31);
        due("12: no want, never dry", x.foretold(2), NONE);
        WaterCarts y = new WaterCarts();
        y.village(10, 0, 120, 120);
        y.bore(0, 1, 1);
        y.drill(0, 50);
        due("12: the well goes not beyond the tank", y.foretold(0), 2);
    }

    private static void promise13Bore() {
        WaterCarts x = new WaterCarts();
        due("13: no village", x.bore(0, 1, 1), NONE);
        x.village(10, 0, 100, 0);
        due("13: least", x.bore(0, 1, 1), 0);
        due("13: most", x.bore(0, 1000, 1000), 1);
        due("13: chance 0", x.bore(0, 0, 1), NONE);
        due("13: chance 1001", x.bore(0, 1001, 1), NONE);
        due("13: cost 0", x.bore(0, 1, 0), NONE);
        due("13: cost 1001", x.bore(0, 1, 1001), NONE);
        due("13: village 1", x.bore(1, 1, 1), NONE);
        for (int wild : WILD) {
            due("13: wild village", x.bore(wild, 1, 1), NONE);
            due("13: wild chance", x.bore(0, wild, 1), NONE);
            due("13: wild cost", x.bore(0, 1, wild), NONE);
        }
        for (int i = 2; i < 10; i++) {
            due("13: number", x.bore(0, 1, 1), i);
        }
        due("13: an 11th", x.bore(0, 1, 1), NONE);
        due("13: 10 are there", x.count(6), 10);
        due("13: a bore is no well yet", look(x, 0, 3), 0);
    }

    private static void promise14Best() {
        WaterCarts x = new WaterCarts();
        x.village(10, 0, 100, 0);
        x.village(20, 0, 100, 0);
        x.bore(0, 100, 50);
        x.bore(1, 50, 50);
        x.bore(1, 50, 40);
        x.bore(0, 90, 10);
        due("14: nothing for nothing", x.best(0), 0);
        due("14: too little", x.best(9), 0);
        due("14: the cheap one", x.best(10), 8);
        due("14: the most worth", x.best(50), 12);
        due("14: of equal worth the least cost", x.best(40), 4);
        due("14: of equal cost the least number", x.best(99), 5);
        due("14: more", x.best(100), 13);
        due("14: three without the cheap one", x.best(149), 7);
        due("14: all", x.best(150), 15);
        due("14: the most purse", x.best(9999), 15);
        due("14: purse 10000", x.best(10000), NONE);
        for (int wild : WILD) {
            due("14: wild", x.best(wild), NONE);
        }
        x.drill(2, 0);
        due("14: not the drilled", x.best(9999), 11);
        due("14: not the drilled, for less", x.best(50), 1);
        WaterCarts y = new WaterCarts();
        y.village(2000, 0, 1, 0);
        for (int i = 0; i < 10; i++) {
            y.bore(0, 1000, 1000);
        }
        due("14: nine of ten", y.best(9999), 511);
        due("14: the least number of five", y.best(5999), 31);
    }

    private static void promise15Drill() {
        WaterCarts x = new WaterCarts();
        due("15: none", x.drill(0, 1), false);
        x.village(10, 0, 10000, 0);
        x.village(10, 0, 10000, 0);
        x.bore(1, 1, 1);
        x.bore(1, 1, 1);
        x.bore(0, 1, 1);
        due("15: litres -1", x.drill(0, -1), false);
        due("15: litres 5001", x.drill(0, 5001), false);
        due("15: bore 3", x.drill(3, 1), false);
        for (int wild : WILD) {
            due("15: wild bore", x.drill(wild, 1), false);
            due("15: wild litres", x.drill(0, wild), false);
        }
        due("15: nothing given", look(x, 1, 3), 0);
        due("15: most", x.drill(0, 5000), true);
        due("15: it is", x.drill(0, 1), false);
        due("15: besides", x.drill(1, 30), true);
        due("15: the well has both", look(x, 1, 3), 5030);
        due("15: the other has none", look(x, 0, 3), 0);
        due("15: 0 litres", x.drill(2, 0), true);
        due("15: is drilled, too", x.drill(2, 5), false);
        x.days(1);
        due("15: the well gives each day", look(x, 1, 2), 4930);
        x.days(2);
        due("15: and again, not beyond the tank", look(x, 1, 2), 9900);
    }

    private static void promise16Dip() {
        WaterCarts x = new WaterCarts();
        due("16: no tanker", x.dip(0, 0, 0, 0), NONE);
        x.spring(0, 1, 0);
        x.tanker(0, 1, 0);
        x.tanker(0, 1, 0);
        due("16: least", x.dip(0, 0, 0, 0), 1);
        due("16: most", x.dip(0, 20000, 20000, 2000), 2);
        due("16: of another tanker", x.dip(1, 1, 1, 1), 1);
        due("16: told -1", x.dip(0, -1, 0, 0), NONE);
        due("16: told 20001", x.dip(0, 20001, 0, 0), NONE);
        due("16: dipped -1", x.dip(0, 0, -1, 0), NONE);
        due("16: dipped 20001", x.dip(0, 0, 20001, 0), NONE);
        due("16: errs -1", x.dip(0, 0, 0, -1), NONE);
        due("16: errs 2001", x.dip(0, 0, 0, 2001), NONE);
        due("16: tanker 2", x.dip(2, 0, 0, 0), NONE);
        for (int wild : WILD) {
            due("16: wild tanker", x.dip(wild, 0, 0, 0), NONE);
            due("16: wild told", x.dip(0, wild, 0, 0), NONE);
            due("16: wild dipped", x.dip(0, 0, wild, 0), NONE);
            due("16: wild errs", x.dip(0, 0, 0, wild), NONE);
        }
        due("16: three in all", x.count(7), 3);
        for (int i = 4; i <= 100; i++) {
            due("16: more", x.dip(1, 0, 0, 0), i - 2);
        }
        due("16: a 101st", x.dip(0, 0, 0, 0), NONE);
        due("16: 100 are there", x.count(7), 100);
    }

    private static void promise17IsShort() {
        WaterCarts x = new WaterCarts();
        due("17: no tanker", x.isShort(0), NONE);
        x.spring(0, 1, 0);
        x.tanker(0, 1, 0);
        x.tanker(0, 1, 0);
        due("17: no dips", x.isShort(0), 0);
        x.dip(0, 20000, 0, 0);
        x.dip(0, 20000, 0, 0);
        due("17: two are too few", x.isShort(0), 0);
        x.dip(0, 0, 20000, 2000);
        due("17: three, beyond doubt", x.isShort(0), 1);
        x.dip(0, 0, 18000, 0);
        due("17: as much as they may err is not beyond doubt", x.isShort(0), 0);
        x.dip(0, 1, 0, 0);
        due("17: one litre more is", x.isShort(0), 1);
        due("17: the other is not", x.isShort(1), 0);
        due("17: tanker 2", x.isShort(2), NONE);
        for (int wild : WILD) {
            due("17: wild", x.isShort(wild), NONE);
        }
    }

    private static void promise18Share() {
        WaterCarts x = new WaterCarts();
        x.village(3, 0, 1000, 100);
        x.village(3, 1, 100000, 100000);
        due("18: ahead of any", x.share(0), 0);
        x.days(1);
        due("18: a day", x.share(0), 1000);
        due("18: the beasts' litres, too", x.share(1), 1666);
        x.days(3);
        due("18: four days, cut", x.share(0), 100 * 100 / 12);
        x.days(3);
        due("18: seven", x.share(0), 100 * 100 / 21);
        x.days(1);
        due("18: the last seven", x.share(0), 70 * 100 / 21);
        x.days(2);
        due("18: of the last seven one", x.share(0), 10 * 100 / 21);
        x.days(1);
        due("18: none of them", x.share(0), 0);
        due("18: still as ever", x.share(1), 1666);
        x.village(1, 0, 100, 100);
        x.days(1);
        due("18: a new one has the days that went by", x.share(2), 1000 / 7);
        due("18: village 3", x.share(3), NONE);
        for (int wild : WILD) {
            due("18: wild", x.share(wild), NONE);
        }
    }

    private static void promise19Look() {
        WaterCarts x = new WaterCarts();
        x.village(10, 5, 1000, 250);
        int[] first = {10, 5, 250, 0, 0, 0, 0, 0, 0};
        looks(x, "ahead", first);
        x.days(2);
        int[] second = {10, 5, 0, 0, 50, 1, 1, 1, 0};
        looks(x, "two days", second);
        x.days(1);
        int[] third = {10, 5, 0, 0, 0, 1, 2, 2, 0};
        looks(x, "three days", third);
        x.spring(0, 1000, 0);
        x.tanker(0, 500, 999);
        x.bore(0, 1, 1);
        x.drill(0, 10);
        x.days(1);
        int[] fourth = {10, 5, 310, 10, 200, 0, 0, 2, 1};
        looks(x, "four days", fourth);
        due("19: what 9", look(x, 0, 9), Bounds.THROWN);
        due("19: what -1", look(x, 0, -1), Bounds.THROWN);
        due("19: village 1", look(x, 1, 0), Bounds.THROWN);
        for (int wild : WILD) {
            due("19: wild village", look(x, wild, 0), Bounds.THROWN);
            due("19: wild what", look(x, 0, wild), Bounds.THROWN);
        }
    }

    private static void looks(WaterCarts x, String when, int[] want) {
        for (int what = 0; what < want.length; what++) {
            due("19: look(0, " + what + "), " + when, look(x, 0, what), want[what]);
        }
    }

    private static void promise20Flows() {
        WaterCarts x = new WaterCarts();
        x.village(50, 0, 5000, 0);
        x.spring(101, 600, 10);
        x.spring(100000, 200000, 100);
        x.spring(7, 9, 0);
        x.tanker(0, 500, 999);
        due("20: flow", x.flows(0, 0), 101);
        due("20: pool", x.flows(0, 1), 600);
        x.days(1);
        due("20: the loss is cut upwards", x.flows(0, 0), 90);
        due("20: not beyond the pool", x.flows(0, 1), 100);
        due("20: falls to nothing", x.flows(1, 0), 0);
        due("20: falls not", x.flows(2, 0), 7);
        x.days(1);
        due("20: falls again", x.flows(0, 0), 81);
        due("20: grows by the flow ahead of its fall", x.flows(0, 1), 190);
        x.days(1);
        due("20: 8.1 are 9", x.flows(0, 0), 72);
        due("20: what 2", x.flows(0, 2), NONE);
        due("20: what -1", x.flows(0, -1), NONE);
        due("20: spring 3", x.flows(3, 0), NONE);
        for (int wild : WILD) {
            due("20: wild spring", x.flows(wild, 0), NONE);
            due("20: wild what", x.flows(0, wild), NONE);
        }
    }

    private static void promise21Goes() {
        WaterCarts x = new WaterCarts();
        x.village(10, 0, 250, 0);
        x.village(10, 0, 300, 0);
        x.spring(0, 100000, 0);
        x.tanker(0, 20000, 999);
        x.tanker(0, 20000, 999);
        x.way(0, 1, 3);
        for (int what = 0; what < 3; what++) {
            due("21: ahead", x.goes(0, what), 0);
        }
        x.days(1);
        due("21: miles", x.goes(0, 0), 26);
        due("21: in all", x.goes(0, 1), 26);
        due("21: brought", x.goes(0, 2), 550);
        x.days(1);
        due("21: none on the second day", x.goes(0, 0), 0);
        due("21: in all as before", x.goes(0, 1), 26);
        x.days(1);
        due("21: one of them again", x.goes(0, 0), 20);
        due("21: in all then", x.goes(0, 1), 46);
        due("21: brought then", x.goes(0, 2), 750);
        due("21: the other stands", x.goes(1, 1), 0);
        due("21: what 3", x.goes(0, 3), NONE);
        due("21: what -1", x.goes(0, -1), NONE);
        due("21: tanker 2", x.goes(2, 0), NONE);
        for (int wild : WILD) {
            due("21: wild tanker", x.goes(wild, 0), NONE);
            due("21: wild what", x.goes(0, wild), NONE);
        }
    }

    /** As much of all as may be: every row is used to its end. */
    private static void fullHouse() {
        WaterCarts x = new WaterCarts();
        for (int i = 0; i < 12; i++) {
            x.village(1, 0, 1 + 100 * i, 1);
        }
        for (int i = 0; i < 4; i++) {
            x.spring(0, 100, 0);
        }
        for (int i = 0; i < 4; i++) {
            x.tanker(3 - i, 9, 40);
        }
        for (int i = 0; i < 10; i++) {
            x.bore(i, 1, 1);
        }
        due("all: full of a tank of one", Check.text(x, "head 1 when full = 100;"), 0);
        due("all: want 0", x.want(0), 1);
        due("all: want 1", x.want(1), 10);
        due("all: needy", x.plan(0), 11);
        due("all: served", x.plan(1), 0);
        due("all: miles", x.plan(2), 120);
        int[] tankers = {NONE, 0, 0, 1, 1, 2, 2, NONE};
        for (int i = 0; i < tankers.length; i++) {
            due("all: tanker of " + i, x.planned(i), tankers[i]);
        }
        due("all: way of the last", x.way(3, 11, 200), true);
        x.days(1);
        due("all: dry", x.count(4), 5);
        due("all: given", x.count(5), 1 + 6 * 10 + 5);
        due("all: pool of the last", x.flows(3, 1), 82);
        due("all: pool of the first", x.flows(0, 1), 100);
        due("all: share of one", x.share(0), 100);
        due("all: drill the first", x.drill(0, 1), true);
        due("all: drill the last", x.drill(9, 1), true);
        due("all: best", x.best(9999), 510);
        x.days(30);
        due("all: now", x.count(3), 31);
        due("all: dry then", look(x, 11, 6), 31);
    }

    private static void promise22Count() {
        WaterCarts x = new WaterCarts();
        x.village(10, 0, 1000, 150);
        x.village(10, 0, 1000, 150);
        x.village(10, 0, 1000, 500);
        x.spring(0, 1, 0);
        x.spring(0, 1, 0);
        x.tanker(0, 1, 1);
        x.bore(0, 1, 1);
        x.bore(0, 1, 1);
        x.bore(0, 1, 1);
        x.dip(0, 1, 1, 1);
        Check.text(x, "head 10 when 1; beast 5 when 1;");
        Check.feed(x, "head");
        x.days(2);
        int[] want = {3, 2, 1, 2, 2, 500, 3, 1, 2, 4};
        for (int what = 0; what < want.length; what++) {
            due("22: count(" + what + ")", x.count(what), want[what]);
        }
        due("22: what 10", x.count(10), NONE);
        for (int wild : WILD) {
            due("22: wild", x.count(wild), NONE);
        }
    }
}
