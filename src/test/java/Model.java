import java.util.ArrayDeque;
import java.util.ArrayList;
import java.util.Deque;
import java.util.List;
import java.util.NoSuchElementException;
import java.util.regex.Matcher;
import java.util.regex.Pattern;

/**
 * The document written a second time, slow and by other means: all plans are gone through, trips that help
 * nobody too; texts are read by a machine of states, not by descent; orders are worked out from their tokens.
 */
final class Model {
    private static final Pattern TOKENS = Pattern.compile("[a-z]+|[0-9]+|[^ \n]");
    private static final List<String> NAMES = List.of("day", "people", "beasts", "days", "full", "dry");

    private static final class Village {
        int people, beasts, tank, in, well, given, row, all, trips;
        boolean dry;
        final List<Integer> history = new ArrayList<>();
    }

    private static final class Spring {
        int flow, pool, in, fall;
        final int[] ways = new int[12];
    }

    private static final class Tanker {
        int spring, holds, miles, latest, allMiles, litres;
        final List<int[]> dips = new ArrayList<>();
    }

    private static final class Bore {
        int village, chance, cost;
        boolean drilled;
    }

    private record Line(String kind, int litres, List<String> tokens) {
    }

    private record Token(String text, int place) {
    }

    private final List<Village> villages = new ArrayList<>();
    private final List<Spring> springs = new ArrayList<>();
    private final List<Tanker> tankers = new ArrayList<>();
    private final List<Bore> bores = new ArrayList<>();
    private final StringBuilder tape = new StringBuilder();
    private List<Line> orders = new ArrayList<>();
    private int now;
    private int dips;
    private int givenInAll;

    private static boolean in(long x, long low, long high) {
        return low <= x && x <= high;
    }

    private static boolean has(List<?> list, int i) {
        return in(i, 0, list.size() - 1);
    }

    int village(int people, int beasts, int tank, int in) {
        if (!in(people, 1, 2000) || !in(beasts, 0, 2000) || !in(tank, 1, 100000) || !in(in, 0, tank)) return -1;
        if (villages.size() == 12) return -1;
        Village v = new Village();
        v.people = people;
        v.beasts = beasts;
        v.tank = tank;
        v.in = in;
        for (int i = 0; i < now; i++) v.history.add(0);
        villages.add(v);
        return villages.size() - 1;
    }

    int spring(int flow, int pool, int fall) {
        if (!in(flow, 0, 100000) || !in(pool, 1, 200000) || !in(fall, 0, 100) || springs.size() == 4) return -1;
        Spring s = new Spring();
        s.flow = flow;
        s.pool = pool;
        s.in = pool;
        s.fall = fall;
        java.util.Arrays.fill(s.ways, 10);
        springs.add(s);
        return springs.size() - 1;
    }

    int tanker(int spring, int holds, int miles) {
        if (!has(springs, spring) || !in(holds, 1, 20000) || !in(miles, 0, 999) || tankers.size() == 4) return -1;
        Tanker t = new Tanker();
        t.spring = spring;
        t.holds = holds;
        t.miles = miles;
        tankers.add(t);
        return tankers.size() - 1;
    }

    boolean way(int spring, int village, int miles) {
        if (!has(springs, spring) || !has(villages, village) || !in(miles, 1, 200)) return false;
        springs.get(spring).ways[village] = miles;
        return true;
    }

    int feed(long a, long b, long c) {
        long[] all = {a, b, c};
        for (int i = 0; i < 24; i++) {
            int sign = (int) (all[i / 8] >> (56 - i % 8 * 8)) & 0xff;
            if ((sign == 10 || in(sign, 32, 126)) && tape.length() < 600) tape.append((char) sign);
        }
        return tape.length();
    }

    int text() {
        String signs = tape.toString();
        tape.setLength(0);
        List<Token> tokens = new ArrayList<>();
        Matcher m = TOKENS.matcher(signs);
        while (m.find()) tokens.add(new Token(m.group(), m.start()));
        tokens.add(new Token("", signs.length()));
        return readStates(tokens);
    }

    private static boolean isNumber(String s) {
        return s.matches("[0-9]{1,4}");
    }

    /** States: 0 a line or the end, 1 litres, 2 "when", 3 a part, 4 behind a part. */
    private int readStates(List<Token> tokens) {
        List<Line> lines = new ArrayList<>();
        Deque<Boolean> compared = new ArrayDeque<>();
        int state = 0;
        String kind = "";
        int litres = 0;
        List<String> expression = new ArrayList<>();
        for (Token token : tokens) {
            String s = token.text();
            int wrong = 0;
            if (state == 0) {
                if (s.isEmpty()) {
                    orders = lines;
                    return 0;
                }
                wrong = !s.equals("head") && !s.equals("beast") ? 1 : lines.size() == 16 ? 5 : 0;
                kind = s;
                state = 1;
            } else if (state == 1) {
                wrong = !isNumber(s) ? 1 : Integer.parseInt(s) > 99 ? 4 : 0;
                litres = wrong == 0 ? Integer.parseInt(s) : 0;
                state = 2;
            } else if (state == 2) {
                wrong = s.equals("when") ? 0 : 1;
                compared.clear();
                compared.push(false);
                expression = new ArrayList<>();
                state = 3;
            } else if (state == 3) {
                boolean open = s.equals("(");
                wrong = !open && !isNumber(s) && !NAMES.contains(s) ? 1 : compared.size() > 5 ? 5 : 0;
                if (open) compared.push(false);
                state = open ? 3 : 4;
                expression.add(s);
            } else {
                expression.add(s);
                if (s.equals("+") || s.equals("-")) {
                    state = 3;
                } else if ((s.equals("<") || s.equals("=")) && !compared.peek()) {
                    compared.pop();
                    compared.push(true);
                    state = 3;
                } else if (s.equals("and")) {
                    compared.pop();
                    compared.push(false);
                    state = 3;
                } else if (s.equals(")") && compared.size() > 1) {
                    compared.pop();
                } else if (s.equals(";") && compared.size() == 1) {
                    expression.remove(expression.size() - 1);
                    lines.add(new Line(kind, litres, expression));
                    state = 0;
                } else {
                    wrong = 1;
                }
            }
            if (wrong != 0) return wrong + 16 * token.place();
        }
        throw new IllegalStateException("the end must be taken or wrong");
    }

    /** The value of tokens by splitting at the weakest sign, the last of them at no depth. */
    private static long value(List<String> tokens, int[] facts) {
        String[][] weakness = {{"and"}, {"<", "="}, {"+", "-"}};
        for (String[] signs : weakness) {
            int depth = 0;
            for (int i = tokens.size() - 1; i >= 0; i--) {
                String s = tokens.get(i);
                if (s.equals(")")) depth++;
                if (s.equals("(")) depth--;
                if (depth == 0 && List.of(signs).contains(s)) {
                    long left = value(tokens.subList(0, i), facts);
                    long right = value(tokens.subList(i + 1, tokens.size()), facts);
                    switch (s) {
                        case "and": return left != 0 && right != 0 ? 1 : 0;
                        case "<": return left < right ? 1 : 0;
                        case "=": return left == right ? 1 : 0;
                        case "+": return left + right;
                        default: return left - right;
                    }
                }
            }
        }
        if (tokens.get(0).equals("(")) return value(tokens.subList(1, tokens.size() - 1), facts);
        int name = NAMES.indexOf(tokens.get(0));
        return name >= 0 ? facts[name] : Integer.parseInt(tokens.get(0));
    }

    private int wantOf(Village v, int day, int dryAhead) {
        int[] facts = {day, v.people, v.beasts, v.row, (int) (100L * v.in / v.tank), dryAhead};
        int head = 10;
        int beast = 20;
        for (int i = orders.size() - 1; i >= 0; i--) {
            Line line = orders.get(i);
            if (value(line.tokens(), facts) != 0) {
                if (line.kind().equals("head")) head = line.litres();
                else beast = line.litres();
            }
        }
        return v.people * head + v.beasts * beast;
    }

    private int dryLatest() {
        int dry = 0;
        for (Village v : villages) if (v.dry) dry++;
        return dry;
    }

    int want(int village) {
        return has(villages, village) ? wantOf(villages.get(village), now + 1, dryLatest()) : -1;
    }

    private static final class Plan {
        final List<Integer> needy = new ArrayList<>();
        int needyInAll;
        int[] tankers = new int[0];
        int dry = Integer.MAX_VALUE;
        int miles;
    }

    private Plan bestPlan() {
        Plan plan = new Plan();
        List<Integer> wants = new ArrayList<>();
        for (int i = 0; i < villages.size(); i++) {
            int want = want(i);
            if (villages.get(i).in >= want) continue;
            plan.needyInAll++;
            if (plan.needy.size() < 6) {
                plan.needy.add(i);
                wants.add(want);
            }
        }
        int kinds = tankers.size() + 1;
        int plans = (int) Math.round(Math.pow(kinds, plan.needy.size()));
        for (int number = 0; number < plans; number++) {
            int[] chosen = new int[plan.needy.size()];
            int rest = number;
            for (int i = chosen.length - 1; i >= 0; i--) {
                chosen[i] = rest % kinds;
                rest /= kinds;
            }
            weigh(plan, wants, chosen);
        }
        return plan;
    }

    private void weigh(Plan plan, List<Integer> wants, int[] chosen) {
        int[] pools = new int[4];
        int[] driven = new int[4];
        for (int i = 0; i < springs.size(); i++) pools[i] = springs.get(i).in;
        int dry = 0;
        int miles = 0;
        for (int i = 0; i < chosen.length; i++) {
            Village v = villages.get(plan.needy.get(i));
            int in = v.in;
            if (chosen[i] < tankers.size()) {
                Tanker t = tankers.get(chosen[i]);
                int trip = 2 * springs.get(t.spring).ways[plan.needy.get(i)];
                miles += trip;
                driven[chosen[i]] += trip;
                if (driven[chosen[i]] > t.miles) return;
                int load = Math.min(t.holds, Math.min(pools[t.spring], v.tank - in));
                pools[t.spring] -= load;
                in += load;
            }
            if (in < wants.get(i)) dry++;
        }
        if (dry < plan.dry || dry == plan.dry && miles < plan.miles) {
            plan.dry = dry;
            plan.miles = miles;
            plan.tankers = chosen;
        }
    }

    int plan(int what) {
        if (!in(what, 0, 2)) return -1;
        Plan plan = bestPlan();
        return what == 0 ? plan.needyInAll : what == 1 ? plan.dry : plan.miles;
    }

    int planned(int village) {
        Plan plan = bestPlan();
        int place = plan.needy.indexOf(village);
        return place < 0 || plan.tankers[place] == tankers.size() ? -1 : plan.tankers[place];
    }

    int days(int n) {
        if (!in(n, 0, 30) || now + n > 399) return -1;
        for (int i = 0; i < n; i++) day();
        return now;
    }

    private void day() {
        for (Spring s : springs) {
            s.in = Math.min(s.pool, s.in + s.flow);
            s.flow -= (int) Math.ceil(s.flow * s.fall / 100.0 - 1e-9);
        }
        for (Village v : villages) v.in = Math.min(v.tank, v.in + v.well);
        for (Tanker t : tankers) t.latest = 0;
        Plan plan = bestPlan();
        for (int i = 0; i < plan.needy.size(); i++) {
            if (plan.tankers[i] == tankers.size()) continue;
            Tanker t = tankers.get(plan.tankers[i]);
            Spring s = springs.get(t.spring);
            Village v = villages.get(plan.needy.get(i));
            int load = Math.min(t.holds, Math.min(s.in, v.tank - v.in));
            s.in -= load;
            v.in += load;
            v.trips++;
            t.litres += load;
            t.latest += 2 * s.ways[plan.needy.get(i)];
            t.allMiles += 2 * s.ways[plan.needy.get(i)];
        }
        int dryAhead = dryLatest();
        now++;
        for (Village v : villages) {
            int want = wantOf(v, now, dryAhead);
            v.dry = v.in < want;
            v.given = v.dry ? v.in : want;
            v.in -= v.given;
            v.row = v.dry ? v.row + 1 : 0;
            v.all += v.dry ? 1 : 0;
            v.history.add(v.given);
            givenInAll += v.given;
        }
    }

    int foretold(int village) {
        if (!has(villages, village)) return -1;
        Village v = villages.get(village);
        int want = want(village);
        int in = v.in;
        for (int day = now + 1; day <= now + 60; day++) {
            in = Math.min(in + v.well, v.tank) - want;
            if (in < 0) return day;
        }
        return -1;
    }

    int bore(int village, int chance, int cost) {
        if (!has(villages, village) || !in(chance, 1, 1000) || !in(cost, 1, 1000) || bores.size() == 10) return -1;
        Bore b = new Bore();
        b.village = village;
        b.chance = chance;
        b.cost = cost;
        bores.add(b);
        return bores.size() - 1;
    }

    int best(int purse) {
        if (!in(purse, 0, 9999)) return -1;
        long[] best = {0, 0, 0};
        for (int set = (1 << bores.size()) - 1; set >= 0; set--) {
            long worth = 0;
            long cost = 0;
            boolean fresh = true;
            for (int i = 0; i < bores.size(); i++) {
                if ((set & 1 << i) == 0) continue;
                Bore b = bores.get(i);
                worth += (long) b.chance * villages.get(b.village).people;
                cost += b.cost;
                fresh &= !b.drilled;
            }
            if (!fresh || cost > purse || worth < best[0]) continue;
            if (worth > best[0] || cost < best[1] || cost == best[1] && set < best[2]) {
                best = new long[] {worth, cost, set};
            }
        }
        return (int) best[2];
    }

    boolean drill(int bore, int litres) {
        if (!has(bores, bore) || bores.get(bore).drilled || !in(litres, 0, 5000)) return false;
        bores.get(bore).drilled = true;
        villages.get(bores.get(bore).village).well += litres;
        return true;
    }

    int dip(int tanker, int told, int dipped, int errs) {
        if (!has(tankers, tanker) || !in(told, 0, 20000) || !in(dipped, 0, 20000) || !in(errs, 0, 2000)) return -1;
        if (dips == 100) return -1;
        dips++;
        tankers.get(tanker).dips.add(new int[] {told, dipped, errs});
        return tankers.get(tanker).dips.size();
    }

    int isShort(int tanker) {
        if (!has(tankers, tanker)) return -1;
        int beyond = 0;
        for (int[] dip : tankers.get(tanker).dips) beyond += dip[0] - dip[1] - dip[2];
        return tankers.get(tanker).dips.size() >= 3 && beyond > 0 ? 1 : 0;
    }

    int share(int village) {
        if (!has(villages, village)) return -1;
        if (now == 0) return 0;
        Village v = villages.get(village);
        int days = Math.min(7, now);
        long sum = 0;
        for (int i = 0; i < days; i++) sum += v.history.get(v.history.size() - 1 - i);
        return (int) (sum * 100 / ((long) v.people * days));
    }

    int look(int village, int what) {
        if (!has(villages, village) || !in(what, 0, 8)) throw new NoSuchElementException();
        Village v = villages.get(village);
        int[] all = {v.people, v.beasts, v.in, v.well, v.given, v.dry ? 1 : 0, v.row, v.all, v.trips};
        return all[what];
    }

    int flows(int spring, int what) {
        if (!has(springs, spring) || !in(what, 0, 1)) return -1;
        return what == 0 ? springs.get(spring).flow : springs.get(spring).in;
    }

    int goes(int tanker, int what) {
        if (!has(tankers, tanker) || !in(what, 0, 2)) return -1;
        Tanker t = tankers.get(tanker);
        return what == 0 ? t.latest : what == 1 ? t.allMiles : t.litres;
    }

    int count(int what) {
        int[] all = {villages.size(), springs.size(), tankers.size(), now, dryLatest(), givenInAll,
            bores.size(), dips, orders.size(), tape.length()};
        return in(what, 0, 9) ? all[what] : -1;
    }
}
