import java.util.NoSuchElementException;

/** Villages with dry wells, the springs and tankers that water them, and the orders that say how much. */
public final class WaterCarts {
    public static final int NONE = -1;

    private static final int LAST_DAY = 399;
    private static final int MOST_DAYS_A_CALL = 30;
    private static final int FORESIGHT = 60;
    private static final int WEEK = 7;
    private static final int MOST_VILLAGES = 12;
    private static final int MOST_SPRINGS = 4;
    private static final int MOST_TANKERS = 4;
    private static final int MOST_BORES = 10;
    private static final int MOST_DIPS = 100;
    private static final int MOST_NEEDY = 6;
    private static final int MOST_PURSE = 9999;
    private static final int FIRST_WAY = 10;
    private static final int USUAL_HEAD = 10;
    private static final int USUAL_BEAST = 20;

    private static final int MOST_SIGNS = 600;
    private static final int MOST_LINES = 16;
    private static final int MOST_LITRES = 99;
    private static final int MOST_DIGITS = 4;
    private static final int DEEPEST = 5;
    private static final int STACK = 32;

    private static final int FAULT_TOKEN = 1;
    private static final int FAULT_LITRES = 4;
    private static final int FAULT_LIMIT = 5;

    // Tokens are below 0, so that one row can hold them beside numbers.
    // The first six are also the places of the facts: DAY is fact 0, DRY is fact 5.
    private static final int DAY = -1;
    private static final int PEOPLE = -2;
    private static final int BEASTS = -3;
    private static final int DAYS = -4;
    private static final int FULL = -5;
    private static final int DRY = -6;
    private static final int FACTS = 6;
    private static final int PLUS = -7;
    private static final int MINUS = -8;
    private static final int LESS = -9;
    private static final int EQUAL = -10;
    private static final int AND = -11;
    private static final int HEAD = -12;
    private static final int BEAST = -13;
    private static final int WHEN = -14;
    private static final int OPEN = -15;
    private static final int CLOSE = -16;
    private static final int SEMICOLON = -17;
    private static final int END = -18;
    private static final int BAD = -19;

    private final Village[] villages = new Village[MOST_VILLAGES];
    private final Spring[] springs = new Spring[MOST_SPRINGS];
    private final Tanker[] tankers = new Tanker[MOST_TANKERS];
    private final Bore[] bores = new Bore[MOST_BORES];
    private final int[] facts = new int[FACTS];
    private final Reader reader = new Reader();
    private final Planner planner = new Planner();
    private int villageCount;
    private int springCount;
    private int tankerCount;
    private int boreCount;
    private int dipCount;
    private int now;
    private int dryLatest;
    private int givenInAll;

    public WaterCarts() {
        for (int i = 0; i < MOST_VILLAGES; i++) {
            villages[i] = new Village();
        }
        for (int i = 0; i < MOST_SPRINGS; i++) {
            springs[i] = new Spring();
        }
        for (int i = 0; i < MOST_TANKERS; i++) {
            tankers[i] = new Tanker();
        }
        for (int i = 0; i < MOST_BORES; i++) {
            bores[i] = new Bore();
        }
    }

    public int village(int people, int beasts, int tank, int in) {
        boolean right = within(people, 1, 2000) && within(beasts, 0, 2000)
            && within(tank, 1, 100000) && within(in, 0, tank);
        if (!right || villageCount >= MOST_VILLAGES) {
            return NONE;
        }
        Village added = villages[villageCount];
        added.people = people;
        added.beasts = beasts;
        added.tank = tank;
        added.in = in;
        villageCount++;
        return villageCount - 1;
    }

    public int spring(int flow, int pool, int fall) {
        boolean right = within(flow, 0, 100000) && within(pool, 1, 200000) && within(fall, 0, 100);
        if (!right || springCount >= MOST_SPRINGS) {
            return NONE;
        }
        Spring added = springs[springCount];
        added.flow = flow;
        added.pool = pool;
        added.in = pool;
        added.fall = fall;
        springCount++;
        return springCount - 1;
    }

    public int tanker(int spring, int holds, int miles) {
        boolean right = isSpring(spring) && within(holds, 1, 20000) && within(miles, 0, 999);
        if (!right || tankerCount >= MOST_TANKERS) {
            return NONE;
        }
        Tanker added = tankers[tankerCount];
        added.spring = spring;
        added.holds = holds;
        added.miles = miles;
        tankerCount++;
        return tankerCount - 1;
    }

    public boolean way(int spring, int village, int miles) {
        if (!isSpring(spring) || !isVillage(village) || !within(miles, 1, 200)) {
            return false;
        }
        springs[spring].ways[village] = miles;
        return true;
    }

    public int feed(long a, long b, long c) {
        reader.tape.addEight(a);
        reader.tape.addEight(b);
        reader.tape.addEight(c);
        return reader.tape.length;
    }

    public int text() {
        return reader.readText();
    }

    public int want(int village) {
        return isVillage(village) ? wantOf(villages[village]) : NONE;
    }

    public int plan(int what) {
        if (!within(what, 0, 2)) {
            return NONE;
        }
        makePlan();
        if (what == 0) {
            return planner.needyInAll;
        }
        return what == 1 ? planner.bestDry : planner.bestMiles;
    }

    public int planned(int village) {
        if (!isVillage(village)) {
            return NONE;
        }
        makePlan();
        for (int i = 0; i < planner.needyCount; i++) {
            if (planner.needy[i] == village) {
                return planner.best[i];
            }
        }
        return NONE;
    }

    public int days(int n) {
        if (!within(n, 0, MOST_DAYS_A_CALL) || n > LAST_DAY - now) {
            return NONE;
        }
        for (int i = 0; i < n; i++) {
            passDay();
        }
        return now;
    }

    public int foretold(int village) {
        if (!isVillage(village)) {
            return NONE;
        }
        Village asked = villages[village];
        int wanted = wantOf(asked);
        int left = asked.in;
        for (int ahead = 1; ahead <= FORESIGHT; ahead++) {
            left = Math.min(left + asked.well, asked.tank);
            if (left < wanted) {
                return now + ahead;
            }
            left -= wanted;
        }
        return NONE;
    }

    public int bore(int village, int chance, int cost) {
        boolean right = isVillage(village) && within(chance, 1, 1000) && within(cost, 1, 1000);
        if (!right || boreCount >= MOST_BORES) {
            return NONE;
        }
        Bore added = bores[boreCount];
        added.village = village;
        added.cost = cost;
        added.worth = chance * villages[village].people;
        boreCount++;
        return boreCount - 1;
    }

    public int best(int purse) {
        if (!within(purse, 0, MOST_PURSE)) {
            return NONE;
        }
        int best = 0;
        int bestWorth = 0;
        int bestCost = 0;
        // Sets come by their numbers, so a later one must be better, not only as good.
        for (int set = 1; set < 1 << boreCount; set++) {
            int cost = costOf(set);
            int worth = worthOf(set);
            boolean better = worth > bestWorth || worth == bestWorth && cost < bestCost;
            if (better && cost <= purse && noneDrilled(set)) {
                best = set;
                bestWorth = worth;
                bestCost = cost;
            }
        }
        return best;
    }

    public boolean drill(int bore, int litres) {
        if (!within(bore, 0, boreCount - 1) || bores[bore].drilled || !within(litres, 0, 5000)) {
            return false;
        }
        Bore drilled = bores[bore];
        drilled.drilled = true;
        if (isVillage(drilled.village)) {
            villages[drilled.village].well += litres;
        }
        return true;
    }

    public int dip(int tanker, int told, int dipped, int errs) {
        boolean right = isTanker(tanker) && within(told, 0, 20000)
            && within(dipped, 0, 20000) && within(errs, 0, 2000);
        if (!right || dipCount >= MOST_DIPS) {
            return NONE;
        }
        Tanker seen = tankers[tanker];
        seen.dips++;
        seen.lacking += told - dipped;
        seen.doubt += errs;
        dipCount++;
        return seen.dips;
    }

    public int isShort(int tanker) {
        if (!isTanker(tanker)) {
            return NONE;
        }
        Tanker asked = tankers[tanker];
        return asked.dips >= 3 && asked.lacking > asked.doubt ? 1 : 0;
    }

    public int share(int village) {
        if (!isVillage(village)) {
            return NONE;
        }
        Village asked = villages[village];
        int heads = asked.people * Math.min(WEEK, now);
        return heads > 0 ? asked.givenInWeek() * 100 / heads : 0;
    }

    public int look(int village, int what) throws NoSuchElementException {
        if (!isVillage(village) || !within(what, 0, 8)) {
            throw new NoSuchElementException();
        }
        return villages[village].told(what);
    }

    public int flows(int spring, int what) {
        if (!isSpring(spring) || !within(what, 0, 1)) {
            return NONE;
        }
        return what == 0 ? springs[spring].flow : springs[spring].in;
    }

    public int goes(int tanker, int what) {
        if (!isTanker(tanker) || !within(what, 0, 2)) {
            return NONE;
        }
        Tanker asked = tankers[tanker];
        if (what == 0) {
            return asked.milesLatest;
        }
        return what == 1 ? asked.milesInAll : asked.brought;
    }

    public int count(int what) {
        switch (what) {
            case 0: return villageCount;
            case 1: return springCount;
            case 2: return tankerCount;
            case 3: return now;
            case 4: return dryLatest;
            case 5: return givenInAll;
            case 6: return boreCount;
            case 7: return dipCount;
            case 8: return reader.standing.lines;
            case 9: return reader.tape.length;
            default: return NONE;
        }
    }

    private static boolean within(int number, int least, int most) {
        return number >= least && number <= most;
    }

    private boolean isVillage(int village) {
        return within(village, 0, villageCount - 1);
    }

    private boolean isSpring(int spring) {
        return within(spring, 0, springCount - 1);
    }

    private boolean isTanker(int tanker) {
        return within(tanker, 0, tankerCount - 1);
    }

    private int wantOf(Village asked) {
        facts[-1 - DAY] = now + 1;
        facts[-1 - PEOPLE] = asked.people;
        facts[-1 - BEASTS] = asked.beasts;
        facts[-1 - DAYS] = asked.dryInRow;
        facts[-1 - FULL] = asked.hundredths();
        facts[-1 - DRY] = dryLatest;
        Orders orders = reader.standing;
        return asked.people * orders.litresFor(HEAD, facts, USUAL_HEAD)
            + asked.beasts * orders.litresFor(BEAST, facts, USUAL_BEAST);
    }

    private void makePlan() {
        planner.clear();
        for (int i = 0; i < springCount; i++) {
            planner.pools[i] = springs[i].in;
        }
        for (int i = 0; i < tankerCount; i++) {
            planner.addTanker(tankers[i].spring, tankers[i].holds, tankers[i].miles);
        }
        for (int i = 0; i < villageCount; i++) {
            int lack = wantOf(villages[i]) - villages[i].in;
            if (lack > 0) {
                addNeedy(i, lack);
            }
        }
        planner.findBest();
    }

    /** All the needy are counted, but only the first of them may get a trip. */
    private void addNeedy(int village, int lack) {
        planner.needyInAll++;
        if (planner.needyInAll > MOST_NEEDY) {
            return;
        }
        planner.addPlace(village, lack, villages[village].room());
        for (int i = 0; i < tankerCount; i++) {
            if (isSpring(tankers[i].spring)) {
                planner.setTrip(i, 2 * springs[tankers[i].spring].ways[village]);
            }
        }
    }

    private void passDay() {
        for (int i = 0; i < springCount; i++) {
            springs[i].run();
        }
        for (int i = 0; i < villageCount; i++) {
            villages[i].fill(villages[i].well);
        }
        for (int i = 0; i < tankerCount; i++) {
            tankers[i].milesLatest = 0;
        }
        makePlan();
        for (int i = 0; i < planner.needyCount; i++) {
            drive(planner.best[i], planner.needy[i]);
        }
        giveToAll();
        now++;
    }

    private void drive(int tanker, int village) {
        if (!isTanker(tanker) || !isVillage(village) || !isSpring(tankers[tanker].spring)) {
            return;
        }
        Tanker driven = tankers[tanker];
        Spring source = springs[driven.spring];
        Village goal = villages[village];
        int load = Math.min(Math.min(driven.holds, source.in), goal.room());
        source.in -= load;
        goal.fill(load);
        goal.trips++;
        driven.carried(load, 2 * source.ways[village]);
    }

    private void giveToAll() {
        int dry = 0;
        int slot = Math.floorMod(now, WEEK);
        for (int i = 0; i < villageCount; i++) {
            villages[i].give(wantOf(villages[i]), slot);
            givenInAll += villages[i].given;
            dry += villages[i].dry ? 1 : 0;
        }
        // Orders ask for the dry of the day ahead, so today's stand only when all have been given.
        dryLatest = dry;
    }

    private int costOf(int set) {
        int cost = 0;
        for (int i = 0; i < boreCount; i++) {
            cost += (set >> i & 1) * bores[i].cost;
        }
        return cost;
    }

    private int worthOf(int set) {
        int worth = 0;
        for (int i = 0; i < boreCount; i++) {
            worth += (set >> i & 1) * bores[i].worth;
        }
        return worth;
    }

    private boolean noneDrilled(int set) {
        for (int i = 0; i < boreCount; i++) {
            if ((set >> i & 1) == 1 && bores[i].drilled) {
                return false;
            }
        }
        return true;
    }

    private static final class Village {
        int people;
        int beasts;
        int tank;
        int in;
        int well;
        int given;
        boolean dry;
        int dryInRow;
        int dryInAll;
        int trips;
        final int[] week = new int[WEEK];

        int room() {
            return tank - in;
        }

        int hundredths() {
            return tank > 0 ? in * 100 / tank : 0;
        }

        void fill(int litres) {
            in = Math.min(in + litres, tank);
        }

        void give(int wanted, int slot) {
            dry = in < wanted;
            given = Math.min(in, wanted);
            in -= given;
            dryInRow = dry ? dryInRow + 1 : 0;
            dryInAll += dry ? 1 : 0;
            if (slot >= 0 && slot < WEEK) {
                week[slot] = given;
            }
        }

        int givenInWeek() {
            int sum = 0;
            for (int i = 0; i < WEEK; i++) {
                sum += week[i];
            }
            return sum;
        }

        int told(int what) {
            switch (what) {
                case 0: return people;
                case 1: return beasts;
                case 2: return in;
                case 3: return well;
                case 4: return given;
                case 5: return dry ? 1 : 0;
                case 6: return dryInRow;
                case 7: return dryInAll;
                default: return trips;
            }
        }
    }

    private static final class Spring {
        int flow;
        int pool;
        int in;
        int fall;
        final int[] ways = new int[MOST_VILLAGES];

        Spring() {
            for (int i = 0; i < MOST_VILLAGES; i++) {
                ways[i] = FIRST_WAY;
            }
        }

        void run() {
            in = Math.min(in + flow, pool);
            flow -= (flow * fall + 99) / 100;
        }
    }

    private static final class Tanker {
        int spring;
        int holds;
        int miles;
        int milesLatest;
        int milesInAll;
        int brought;
        int dips;
        int lacking;
        int doubt;

        void carried(int litres, int driven) {
            brought += litres;
            milesLatest += driven;
            milesInAll += driven;
        }
    }

    private static final class Bore {
        int village;
        int cost;
        int worth;
        boolean drilled;
    }

    /** Finds the plan for the needy: fewest dry, then least miles, then the least tankers in turn. */
    private static final class Planner {
        final int[] pools = new int[MOST_SPRINGS];
        final int[] springOf = new int[MOST_TANKERS];
        final int[] holds = new int[MOST_TANKERS];
        final int[] milesLeft = new int[MOST_TANKERS];
        final int[] needy = new int[MOST_NEEDY];
        final int[] lacks = new int[MOST_NEEDY];
        final int[] rooms = new int[MOST_NEEDY];
        final int[][] trips = new int[MOST_NEEDY][MOST_TANKERS];
        final int[] chosen = new int[MOST_NEEDY];
        final int[] best = new int[MOST_NEEDY];
        // Of the needy from each place on: those that none can serve, and the least miles for the others.
        final int[] lost = new int[MOST_NEEDY + 1];
        final int[] leastMiles = new int[MOST_NEEDY + 1];
        int tankerCount;
        int needyInAll;
        // Of the needy, those that may get a trip.
        int needyCount;
        int bestDry;
        int bestMiles;

        void clear() {
            tankerCount = 0;
            needyInAll = 0;
            needyCount = 0;
        }

        void addTanker(int spring, int litres, int miles) {
            if (tankerCount < MOST_TANKERS && within(spring, 0, MOST_SPRINGS - 1)) {
                springOf[tankerCount] = spring;
                holds[tankerCount] = litres;
                milesLeft[tankerCount] = miles;
                tankerCount++;
            }
        }

        void addPlace(int village, int lack, int room) {
            if (needyCount < MOST_NEEDY) {
                needy[needyCount] = village;
                lacks[needyCount] = lack;
                rooms[needyCount] = room;
                needyCount++;
            }
        }

        /** The miles of a tanker's trip to the needy that was added last. */
        void setTrip(int tanker, int miles) {
            if (needyCount > 0 && within(tanker, 0, MOST_TANKERS - 1)) {
                trips[needyCount - 1][tanker] = miles;
            }
        }

        void findBest() {
            lost[needyCount] = 0;
            leastMiles[needyCount] = 0;
            for (int i = needyCount - 1; i >= 0; i--) {
                int least = leastTrip(i);
                lost[i] = lost[i + 1] + (least == NONE ? 1 : 0);
                leastMiles[i] = leastMiles[i + 1] + (least == NONE ? 0 : least);
            }
            bestDry = needyCount + 1;
            bestMiles = 0;
            search(0, 0, 0);
        }

        private int leastTrip(int place) {
            int least = NONE;
            for (int tanker = 0; tanker < tankerCount; tanker++) {
                int miles = trips[place][tanker];
                if (serves(tanker, place) && (least == NONE || miles < least)) {
                    least = miles;
                }
            }
            return least;
        }

        /** A trip that leaves its village wanting saves nobody and costs miles: no best plan has one. */
        private boolean serves(int tanker, int place) {
            return trips[place][tanker] <= milesLeft[tanker] && load(tanker, place) >= lacks[place];
        }

        private int load(int tanker, int place) {
            return Math.min(Math.min(holds[tanker], pools[springOf[tanker]]), rooms[place]);
        }

        /** Goes through the plans in the order of their tankers, so the first of equal ones is kept. */
        private void search(int place, int dry, int miles) {
            int dryAtLeast = dry + lost[place];
            if (dryAtLeast > bestDry
                || dryAtLeast == bestDry && miles + leastMiles[place] >= bestMiles) {
                return;
            }
            if (place >= needyCount) {
                keep(dry, miles);
                return;
            }
            for (int tanker = 0; tanker < tankerCount; tanker++) {
                if (serves(tanker, place)) {
                    tryTrip(tanker, place, dry, miles);
                }
            }
            chosen[place] = NONE;
            search(place + 1, dry + 1, miles);
        }

        private void tryTrip(int tanker, int place, int dry, int miles) {
            int trip = trips[place][tanker];
            int litres = load(tanker, place);
            chosen[place] = tanker;
            milesLeft[tanker] -= trip;
            pools[springOf[tanker]] -= litres;
            search(place + 1, dry, miles + trip);
            milesLeft[tanker] += trip;
            pools[springOf[tanker]] += litres;
        }

        private void keep(int dry, int miles) {
            bestDry = dry;
            bestMiles = miles;
            for (int i = 0; i < needyCount; i++) {
                best[i] = chosen[i];
            }
        }
    }

    /** The signs fed and, once they have been scanned, the tokens in them. */
    private static final class Tape {
        final char[] signs = new char[MOST_SIGNS];
        // One more than signs, for the end. A number stands here as it is, all else as its token.
        final int[] tokens = new int[MOST_SIGNS + 1];
        final int[] places = new int[MOST_SIGNS + 1];
        int length;
        int tokenCount;

        void addEight(long bytes) {
            for (int shift = 56; shift >= 0; shift -= 8) {
                addSign((int) (bytes >>> shift & 255));
            }
        }

        private void addSign(int sign) {
            if ((sign == 10 || within(sign, 32, 126)) && length < MOST_SIGNS) {
                signs[length] = (char) sign;
                length++;
            }
        }

        /** Finds the tokens, the end as the last of them, and takes the signs away. */
        void scan() {
            tokenCount = 0;
            int at = 0;
            while (at < length) {
                int end = endOfRun(at);
                if (!isBlank(signs[at])) {
                    addToken(tokenOf(at, end), at);
                }
                at = Math.max(at + 1, end);
            }
            addToken(END, length);
            length = 0;
        }

        private void addToken(int token, int place) {
            if (tokenCount <= MOST_SIGNS) {
                tokens[tokenCount] = token;
                places[tokenCount] = place;
                tokenCount++;
            }
        }

        /** Letters and digits go together with their like; every other sign stands alone. */
        private int endOfRun(int from) {
            boolean letters = isLetter(signs[from]);
            boolean digits = isDigit(signs[from]);
            int end = from + 1;
            while (end < length && (letters && isLetter(signs[end]) || digits && isDigit(signs[end]))) {
                end++;
            }
            return end;
        }

        private int tokenOf(int from, int end) {
            if (isLetter(signs[from])) {
                return wordToken(from, end);
            }
            return isDigit(signs[from]) ? numberToken(from, end) : signToken(signs[from]);
        }

        private int numberToken(int from, int end) {
            if (end - from > MOST_DIGITS) {
                return BAD;
            }
            int number = 0;
            for (int i = from; i < end; i++) {
                number = number * 10 + (signs[i] - '0');
            }
            return number;
        }

        /** A word that the orders do not know stands nowhere, so it is as bad as one of more than 8 letters. */
        private int wordToken(int from, int end) {
            if (reads("head", from, end)) return HEAD;
            if (reads("beast", from, end)) return BEAST;
            if (reads("when", from, end)) return WHEN;
            if (reads("and", from, end)) return AND;
            if (reads("day", from, end)) return DAY;
            if (reads("people", from, end)) return PEOPLE;
            if (reads("beasts", from, end)) return BEASTS;
            if (reads("days", from, end)) return DAYS;
            if (reads("full", from, end)) return FULL;
            return reads("dry", from, end) ? DRY : BAD;
        }

        private boolean reads(String word, int from, int end) {
            if (end - from != word.length()) {
                return false;
            }
            for (int i = from; i < end; i++) {
                if (signs[i] != word.charAt(i - from)) {
                    return false;
                }
            }
            return true;
        }

        private static boolean isBlank(char sign) {
            return sign == 10 || sign == 32;
        }

        private static boolean isLetter(char sign) {
            return sign >= 'a' && sign <= 'z';
        }

        private static boolean isDigit(char sign) {
            return sign >= '0' && sign <= '9';
        }

        private static int signToken(char sign) {
            switch (sign) {
                case '(': return OPEN;
                case ')': return CLOSE;
                case '<': return LESS;
                case '=': return EQUAL;
                case '+': return PLUS;
                case '-': return MINUS;
                case ';': return SEMICOLON;
                default: return BAD;
            }
        }
    }

    /** Reads the tape as orders from the left and stops at the first token that is wrong. */
    private static final class Reader {
        final Tape tape = new Tape();
        Orders standing = new Orders();
        private Orders draft = new Orders();
        private int at;
        private int fault;

        int readText() {
            tape.scan();
            draft.clear();
            at = 0;
            fault = 0;
            boolean right = true;
            for (int line = 0; line <= MOST_LINES && right && token() != END; line++) {
                right = readLine();
            }
            if (right) {
                // What has a fault is no text, so only one without takes the place of the old.
                Orders old = standing;
                standing = draft;
                draft = old;
            }
            return fault;
        }

        private int token() {
            return at < tape.tokenCount ? tape.tokens[at] : END;
        }

        private boolean readLine() {
            int kind = token();
            if (kind != HEAD && kind != BEAST) {
                return wrong(FAULT_TOKEN);
            }
            if (draft.lines >= MOST_LINES) {
                return wrong(FAULT_LIMIT);
            }
            at++;
            int litres = token();
            if (litres < 0) {
                return wrong(FAULT_TOKEN);
            }
            if (litres > MOST_LITRES) {
                return wrong(FAULT_LITRES);
            }
            at++;
            draft.addLine(kind, litres);
            return take(WHEN) && readTests(1) && take(SEMICOLON);
        }

        private boolean readTests(int depth) {
            boolean right = readTest(depth);
            for (int i = 0; i < MOST_SIGNS && right && token() == AND; i++) {
                at++;
                right = readTest(depth);
                draft.addStep(AND);
            }
            return right;
        }

        private boolean readTest(int depth) {
            if (!readSum(depth)) {
                return false;
            }
            int sign = token();
            if (sign != LESS && sign != EQUAL) {
                return true;
            }
            at++;
            boolean right = readSum(depth);
            draft.addStep(sign);
            return right;
        }

        private boolean readSum(int depth) {
            boolean right = readPart(depth);
            for (int i = 0; i < MOST_SIGNS && right && (token() == PLUS || token() == MINUS); i++) {
                int sign = token();
                at++;
                right = readPart(depth);
                draft.addStep(sign);
            }
            return right;
        }

        private boolean readPart(int depth) {
            int part = token();
            // Numbers and the six facts are all from DRY upwards.
            if (part < DRY && part != OPEN) {
                return wrong(FAULT_TOKEN);
            }
            if (depth > DEEPEST) {
                return wrong(FAULT_LIMIT);
            }
            at++;
            if (part == OPEN) {
                return readTests(depth + 1) && take(CLOSE);
            }
            draft.addStep(part);
            return true;
        }

        private boolean take(int token) {
            if (token() != token) {
                return wrong(FAULT_TOKEN);
            }
            at++;
            return true;
        }

        private boolean wrong(int kind) {
            int place = at < tape.tokenCount ? tape.places[at] : 0;
            fault = kind + 16 * place;
            return false;
        }
    }

    /** The lines of a text; each test stands as steps for a stack: parts first, their sign behind. */
    private static final class Orders {
        final int[] kinds = new int[MOST_LINES];
        final int[] litres = new int[MOST_LINES];
        final int[] starts = new int[MOST_LINES];
        final int[] steps = new int[MOST_SIGNS];
        final int[] stack = new int[STACK];
        int lines;
        int used;
        int height;

        void clear() {
            lines = 0;
            used = 0;
        }

        void addLine(int kind, int amount) {
            if (lines < MOST_LINES) {
                kinds[lines] = kind;
                litres[lines] = amount;
                starts[lines] = used;
                lines++;
            }
        }

        void addStep(int step) {
            if (used < MOST_SIGNS) {
                steps[used] = step;
                used++;
            }
        }

        int litresFor(int kind, int[] facts, int usual) {
            for (int line = 0; line < lines; line++) {
                if (kinds[line] == kind && valueOf(line, facts) != 0) {
                    return litres[line];
                }
            }
            return usual;
        }

        private int valueOf(int line, int[] facts) {
            int end = line + 1 < lines ? starts[line + 1] : used;
            height = 0;
            for (int i = starts[line]; i < end; i++) {
                int step = steps[i];
                int fact = -1 - step;
                if (step >= 0) {
                    push(step);
                } else if (fact < FACTS) {
                    push(facts[fact]);
                } else {
                    int right = pop();
                    int left = pop();
                    push(joined(step, left, right));
                }
            }
            return pop();
        }

        private static int joined(int sign, int left, int right) {
            switch (sign) {
                case PLUS: return left + right;
                case MINUS: return left - right;
                case LESS: return left < right ? 1 : 0;
                case EQUAL: return left == right ? 1 : 0;
                default: return left != 0 && right != 0 ? 1 : 0;
            }
        }

        private void push(int value) {
            if (height < STACK) {
                stack[height] = value;
                height++;
            }
        }

        private int pop() {
            if (height <= 0) {
                return 0;
            }
            height--;
            return stack[height];
        }
    }
}
