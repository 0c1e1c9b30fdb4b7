import java.util.NoSuchElementException;
import java.util.Random;

/** Random runs of calls, the same ones on the class and on the model: every answer must be the same. */
public final class ModelTest {
    // An object is good for 512 calls: the looks at the end are 108, one text may take 44.
    private static final int ENOUGH = 350;
    private static final String[] PARTS = {"day", "people", "beasts", "days", "full", "dry"};

    private final Random random;
    private final WaterCarts carts = new WaterCarts();
    private final Model model = new Model();
    private final String name;
    private int made;

    private ModelTest(long seed) {
        // Seeds side by side begin alike (the first boolean of 0 to 1499 is always true), so they are spread.
        random = new Random(seed * 0x9E3779B97F4A7C15L);
        name = "run " + seed + ": ";
    }

    public static void main(String[] args) {
        int runs = args.length > 0 ? Integer.parseInt(args[0]) : 3000;
        for (int seed = 0; seed < runs && !Check.anyWrong(); seed++) {
            new ModelTest(seed).run();
        }
        Check.end();
    }

    private void run() {
        boolean rich = random.nextBoolean();
        int calls = rich ? 150 : 60;
        if (rich) {
            for (int i = 0; i < 30; i++) found();
        }
        for (int i = 0; i < calls && made < ENOUGH && !Check.anyWrong(); i++) {
            int kind = random.nextInt(10);
            if (kind < 2) found();
            else if (kind < 4) order();
            else if (kind < 6) act();
            else ask();
        }
        for (int i = 0; i < 12; i++) {
            for (int what = 0; what < 9; what++) look(i, what);
        }
        Check.due(name + "stays within 512 calls: " + made, made <= 512, true);
    }

    private int from(int low, int high) {
        int dice = random.nextInt(60);
        if (dice == 0) return low - 1;
        if (dice == 1) return high + 1;
        if (dice == 2) return low;
        if (dice == 3) return high;
        if (dice == 4) return random.nextInt();
        return low + random.nextInt(high - low + 1);
    }

    private void due(String call, long got, long want) {
        made++;
        Check.due(name + call, got, want);
    }

    private void found() {
        switch (random.nextInt(6)) {
            case 0: case 1: {
                int people = random.nextInt(3) == 0 ? from(1, 2000) : from(1, 60);
                int beasts = random.nextBoolean() ? 0 : from(0, 40);
                int tank = random.nextBoolean() ? from(1, 3000) : from(1, 100000);
                int in = tank < 1 || tank > 100000 ? from(0, 10) : from(0, random.nextBoolean() ? tank : Math.min(tank, 700));
                due("village(" + people + ", " + beasts + ", " + tank + ", " + in + ")",
                    carts.village(people, beasts, tank, in), model.village(people, beasts, tank, in));
                break;
            }
            case 2: {
                int flow = random.nextBoolean() ? from(0, 1500) : from(0, 100000);
                int pool = random.nextBoolean() ? from(1, 3000) : from(1, 200000);
                int fall = random.nextBoolean() ? from(0, 100) : from(0, 8);
                due("spring", carts.spring(flow, pool, fall), model.spring(flow, pool, fall));
                break;
            }
            case 3: {
                int spring = from(0, 3);
                int holds = random.nextInt(3) > 0 ? from(1, 1200) : from(1, 20000);
                int miles = random.nextBoolean() ? from(0, 120) : from(0, 999);
                due("tanker", carts.tanker(spring, holds, miles), model.tanker(spring, holds, miles));
                break;
            }
            case 4: {
                int spring = from(0, 3);
                int village = from(0, 11);
                int miles = random.nextInt(3) > 0 ? from(5, 15) : from(1, 200);
                due("way", carts.way(spring, village, miles) ? 1 : 0, model.way(spring, village, miles) ? 1 : 0);
                break;
            }
            default: {
                int village = from(0, 5);
                int chance = random.nextBoolean() ? from(1, 4) * 10 : from(1, 1000);
                int cost = random.nextBoolean() ? from(1, 4) * 10 : from(1, 1000);
                due("bore", carts.bore(village, chance, cost), model.bore(village, chance, cost));
            }
        }
    }

    private void order() {
        StringBuilder text = new StringBuilder();
        int lines = random.nextInt(12) == 0 ? 14 + random.nextInt(5) : random.nextInt(5);
        for (int i = 0; i < lines; i++) {
            text.append(random.nextBoolean() ? "head " : "beast ");
            text.append(random.nextInt(20) == 0 ? random.nextInt(200) : random.nextInt(40)).append(" when ");
            tests(text, 1);
            text.append(gap()).append(';').append(gap());
        }
        int changes = random.nextInt(3) == 0 ? 1 + random.nextInt(2) : 0;
        for (int i = 0; i < changes && text.length() > 0; i++) change(text);
        // No more than 600 signs are kept, so the rest of a very long text would only use up calls.
        text.setLength(Math.min(text.length(), 1000));
        for (int at = 0; at < text.length(); at += 24) {
            String signs = text.toString();
            long a = Check.eight(signs, at);
            long b = Check.eight(signs, at + 8);
            long c = Check.eight(signs, at + 16);
            due("feed", carts.feed(a, b, c), model.feed(a, b, c));
        }
        if (random.nextInt(8) > 0) {
            due("text() of " + text, carts.text(), model.text());
            due("count(8)", carts.count(8), model.count(8));
        }
    }

    private String gap() {
        return random.nextInt(3) == 0 ? "" : random.nextInt(5) == 0 ? "\n" : " ";
    }

    private void tests(StringBuilder text, int depth) {
        do {
            sum(text, depth);
            if (random.nextInt(2) == 0) {
                text.append(gap()).append(random.nextBoolean() ? '<' : '=').append(gap());
                sum(text, depth);
            }
            if (random.nextInt(4) > 0) return;
            text.append(" and ");
        } while (true);
    }

    private void sum(StringBuilder text, int depth) {
        part(text, depth);
        while (random.nextInt(4) == 0) {
            text.append(gap()).append(random.nextBoolean() ? '+' : '-').append(gap());
            part(text, depth);
        }
    }

    private void part(StringBuilder text, int depth) {
        int dice = random.nextInt(9);
        if (dice < 3 && depth < 5 || dice == 0 && depth < 7) {
            text.append('(').append(gap());
            tests(text, depth + 1);
            text.append(gap()).append(')');
        } else if (dice < 6) {
            text.append(PARTS[random.nextInt(6)]);
        } else {
            text.append(random.nextInt(30) == 0 ? random.nextInt(30000) : random.nextInt(random.nextInt(60) + 1));
        }
    }

    private void change(StringBuilder text) {
        String signs = "();<=+-0189 aehdwn~A\n\t>";
        int at = random.nextInt(text.length());
        char sign = signs.charAt(random.nextInt(signs.length()));
        switch (random.nextInt(4)) {
            case 0: text.deleteCharAt(at); break;
            case 1: text.insert(at, sign); break;
            case 2: text.setCharAt(at, sign); break;
            default: text.delete(at, Math.min(text.length(), at + 1 + random.nextInt(8)));
        }
    }

    private void act() {
        switch (random.nextInt(5)) {
            case 0: {
                int bore = from(0, 9);
                int litres = random.nextBoolean() ? from(0, 300) : from(0, 5000);
                due("drill", carts.drill(bore, litres) ? 1 : 0, model.drill(bore, litres) ? 1 : 0);
                break;
            }
            case 1: {
                int tanker = from(0, 3);
                int told = random.nextBoolean() ? from(90, 110) : from(0, 20000);
                int dipped = random.nextBoolean() ? from(90, 110) : from(0, 20000);
                int errs = random.nextBoolean() ? from(0, 10) : from(0, 2000);
                due("dip", carts.dip(tanker, told, dipped, errs), model.dip(tanker, told, dipped, errs));
                due("isShort", carts.isShort(tanker), model.isShort(tanker));
                break;
            }
            default: {
                int n = random.nextInt(20) == 0 ? from(0, 30) : random.nextInt(3);
                due("days(" + n + ")", carts.days(n), model.days(n));
            }
        }
    }

    private void ask() {
        int thing = from(0, 11);
        int what = from(0, 10);
        switch (random.nextInt(12)) {
            case 0: due("want", carts.want(thing), model.want(thing)); break;
            case 1: due("plan", carts.plan(what), model.plan(what)); break;
            case 2: due("plan(1)", carts.plan(1), model.plan(1)); break;
            case 3: due("plan(2)", carts.plan(2), model.plan(2)); break;
            case 4: due("planned", carts.planned(thing), model.planned(thing)); break;
            case 5: due("foretold", carts.foretold(thing), model.foretold(thing)); break;
            case 6: {
                int purse = random.nextBoolean() ? from(0, 200) : from(0, 9999);
                due("best", carts.best(purse), model.best(purse));
                break;
            }
            case 7: due("share", carts.share(thing), model.share(thing)); break;
            case 8: look(thing, what); break;
            case 9: due("flows", carts.flows(thing % 5, what % 3), model.flows(thing % 5, what % 3)); break;
            case 10: due("goes", carts.goes(thing % 5, what % 4), model.goes(thing % 5, what % 4)); break;
            default: due("count(" + what + ")", carts.count(what), model.count(what));
        }
    }

    private void look(int village, int what) {
        long want;
        try {
            want = model.look(village, what);
        } catch (NoSuchElementException e) {
            want = Bounds.THROWN;
        }
        due("look(" + village + ", " + what + ")", Bounds.look(carts, village, what), want);
    }
}
