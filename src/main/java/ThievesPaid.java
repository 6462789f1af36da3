/** Thieves by subscription: a city whose houses pay thieves by the month to rob another house. */
public final class ThievesPaid {
    public static final int NONE = -1, UNKNOWN = -101, OUTSIDE = -102, STATE = -103, FULL = -104;

    private static final int HOUSES = 8;
    private static final int MOST_THIEVES = 8;
    private static final int MOST_SPOONS = 8;
    private static final int MOST_WORTH = 99;
    private static final int LONGEST_LOCK = 9;
    private static final int ALL_TENTHS = 10;
    private static final int FARTHEST_MONTH = 60;
    private static final int FARTHEST_CHANCE = 2;
    private static final int FARTHEST_WHOM = 12;
    private static final int DIGEST_WHOM_MONTHS = 3;
    private static final int DIGEST_START = 673;
    private static final int LETTERS_IN_LONG = 8;
    private static final int LAST_LETTER_CODE = 126;
    private static final int HOUSE_SETS = 1 << HOUSES;
    /** The bit of who() that says all had come; it lies behind those of the thieves. */
    private static final int ALL_CAME = 1 << MOST_THIEVES;
    /** What whom() tells may be below 0, so its refusals lie this much lower. */
    private static final int WHOM_REFUSED = -100000;
    /** Euclid's rule needs some 80 steps for the greatest long; this bound is above that. */
    private static final int EUCLID_STEPS = 200;

    private final Page page = new Page();
    private final Reader reader = new Reader();
    private final Thief[] thieves = new Thief[MOST_THIEVES];
    private final int[] worths = new int[MOST_SPOONS];
    private final int[] owners = new int[MOST_SPOONS];
    private final City now = new City();
    private final City kept = new City();
    /** Where months are tried out, so that no call needs a city of its own. */
    private final City tried = new City();
    private final long[] odds = new long[HOUSES];
    private final int[] nets = new int[HOUSES];
    private final int[] netSums = new int[HOUSE_SETS];
    private final int[] mostGroups = new int[HOUSE_SETS];
    private int thiefCount = 0;
    private int spoonCount = 0;
    private int timesRead = 0;
    private boolean hasImage = false;
    private int imageTimesRead = 0;
    private int imageSpoonCount = 0;

    public ThievesPaid() {
        // No place of the row is ever null, not even behind the last thief.
        for (int t = 0; t < MOST_THIEVES; t++) {
            thieves[t] = new Thief(0, 1, 0);
        }
    }

    // ---- contracts

    public int letters(long w) {
        int told = lettersTold(w);
        if (told == NONE) {
            return OUTSIDE;
        }
        if (page.size + told > Page.MOST_LETTERS) {
            return FULL;
        }
        for (int i = 0; i < told; i++) {
            page.codes[page.size] = byteOf(w, i);
            page.size++;
        }
        return page.size;
    }

    public int blank() {
        int had = page.size;
        page.size = 0;
        return had;
    }

    public int fault() {
        return reader.readAhead(page);
    }

    public int contracts() {
        if (reader.readAhead(page) < page.size || !reader.isAtEnd()) {
            return STATE;
        }
        thiefCount = reader.read;
        for (int t = 0; t < thiefCount; t++) {
            thieves[t] = hired(reader.kinds[t], reader.payers[t], reader.robbed[t], reader.fees[t]);
            now.isPaid[t] = true;
            now.tenthsOf[t] = ALL_TENTHS;
        }
        timesRead++;
        page.size = 0;
        return thiefCount;
    }

    public int about(int thief, int what) {
        if (!isThief(thief)) {
            return UNKNOWN;
        }
        Thief t = thieves[thief];
        switch (what) {
            case 0: return t.kind();
            case 1: return t.payer;
            case 2: return t.robbed;
            case 3: return t.fee;
            case 4: return asNumber(now.isPaid[thief]);
            case 5: return now.tenthsOf[thief];
            default: return OUTSIDE;
        }
    }

    public int as(int thief, int kind) {
        if (!isThief(thief)) {
            return UNKNOWN;
        }
        if (kind < Thief.PLAIN || kind > Thief.MASTER) {
            return OUTSIDE;
        }
        return isOfKind(thieves[thief], kind) ? thief : NONE;
    }

    public int paid(int thief, boolean is) {
        if (!isThief(thief)) {
            return UNKNOWN;
        }
        int was = asNumber(now.isPaid[thief]);
        now.isPaid[thief] = is;
        return was;
    }

    public int tenths(int thief, int v) {
        if (!isThief(thief)) {
            return UNKNOWN;
        }
        if (v < 0 || v > ALL_TENTHS) {
            return OUTSIDE;
        }
        int was = now.tenthsOf[thief];
        now.tenthsOf[thief] = v;
        return was;
    }

    // ---- houses, spoons

    public int lock(int house, int months) {
        if (!isHouse(house)) {
            return UNKNOWN;
        }
        if (months < 0 || months > LONGEST_LOCK) {
            return OUTSIDE;
        }
        int was = now.locks[house];
        now.locks[house] = months;
        return was;
    }

    public int dog(int house, boolean is) {
        if (!isHouse(house)) {
            return UNKNOWN;
        }
        int was = asNumber(now.dogs[house]);
        now.dogs[house] = is;
        return was;
    }

    public int spoon(int house, int worth) {
        if (!isHouse(house)) {
            return UNKNOWN;
        }
        if (worth < 1 || worth > MOST_WORTH) {
            return OUTSIDE;
        }
        if (spoonCount >= MOST_SPOONS) {
            return FULL;
        }
        worths[spoonCount] = worth;
        owners[spoonCount] = house;
        now.at[spoonCount] = house;
        now.seenAt[spoonCount] = NONE;
        spoonCount++;
        return spoonCount - 1;
    }

    public int silver(int spoon, int what) {
        if (!isSpoon(spoon)) {
            return UNKNOWN;
        }
        switch (what) {
            case 0: return worths[spoon];
            case 1: return owners[spoon];
            case 2: return now.at[spoon];
            case 3: return now.seenAt[spoon];
            default: return OUTSIDE;
        }
    }

    public int worth(int house) {
        if (!isHouse(house)) {
            return UNKNOWN;
        }
        return worthIn(now, house);
    }

    public int month() {
        if (thiefCount == 0) {
            return STATE;
        }
        for (int t = 0; t < thiefCount; t++) {
            now.feesPaid += now.isPaid[t] ? thieves[t].fee : 0;
        }
        now.monthsGone++;
        return monthWithout(now, NONE);
    }

    // ---- what would be

    public int where(int spoon, int months) {
        if (!isSpoon(spoon)) {
            return UNKNOWN;
        }
        if (months < 0 || months > FARTHEST_MONTH) {
            return OUTSIDE;
        }
        if (thiefCount == 0) {
            return STATE;
        }
        tried.takeOver(now);
        for (int m = 0; m < months; m++) {
            monthWithout(tried, NONE);
        }
        return tried.at[spoon];
    }

    public long chance(int spoon, int months, int house, int part) {
        if (!isSpoon(spoon) || !isHouse(house)) {
            return UNKNOWN;
        }
        if (months < 1 || months > FARTHEST_CHANCE || part < 0 || part > 1) {
            return OUTSIDE;
        }
        if (thiefCount == 0) {
            return STATE;
        }
        long below = spreadOdds(spoon, months);
        long above = odds[house];
        long divisor = greatestDivisor(below, above);
        if (divisor == 0) {
            return STATE;
        }
        return (part == 0 ? above : below) / divisor;
    }

    public int whom(int house, int months, int what) {
        if (!isHouse(house)) {
            return WHOM_REFUSED + UNKNOWN;
        }
        if (months < 0 || months > FARTHEST_WHOM || what < 0 || what > 1) {
            return WHOM_REFUSED + OUTSIDE;
        }
        if (thiefCount == 0) {
            return WHOM_REFUSED + STATE;
        }
        int set = bestSet(house, months);
        return what == 1 ? set : leftBy(house, months, set);
    }

    public int still() {
        if (thiefCount == 0) {
            return STATE;
        }
        tried.takeOver(now);
        for (int months = 0; months <= FARTHEST_MONTH; months++) {
            if (monthWithout(tried, NONE) == 0) {
                return months;
            }
        }
        return NONE;
    }

    // ---- who did not come, what is owed

    public int seen(int spoon, int house) {
        if (!isSpoon(spoon) || (house != NONE && !isHouse(house))) {
            return UNKNOWN;
        }
        int was = now.seenAt[spoon];
        now.seenAt[spoon] = house;
        return was;
    }

    public int who() {
        if (thiefCount == 0) {
            return STATE;
        }
        int bits = wouldBeAsSeen(NONE) ? ALL_CAME : 0;
        for (int t = 0; t < thiefCount; t++) {
            bits |= wouldBeAsSeen(t) ? 1 << t : 0;
        }
        return bits;
    }

    public int owes(int a, int b) {
        if (!isHouse(a) || !isHouse(b) || a == b) {
            return UNKNOWN;
        }
        int sum = 0;
        for (int s = 0; s < spoonCount; s++) {
            sum += now.at[s] == a && owners[s] == b ? worths[s] : 0;
        }
        return sum;
    }

    public int fewest() {
        netAll();
        netSums[0] = 0;
        mostGroups[0] = 0;
        for (int set = 1; set < HOUSE_SETS; set++) {
            netSums[set] = netSums[set & (set - 1)] + nets[Integer.numberOfTrailingZeros(set)];
            mostGroups[set] = mostGroupsWithOneLess(set) + (netSums[set] == 0 ? 1 : 0);
        }
        return HOUSES - mostGroups[HOUSE_SETS - 1];
    }

    public int months(int times, int seed, int what) {
        if (times < 1 || times > FARTHEST_MONTH || seed < 0 || what < 0 || what > 2) {
            return OUTSIDE;
        }
        if (thiefCount == 0) {
            return STATE;
        }
        tried.takeOver(now);
        int drawn = seed;
        int taken = 0;
        for (int m = 0; m < times; m++) {
            for (int t = 0; t < thiefCount; t++) {
                drawn = nextSeed(drawn);
                taken += drawOfTen(drawn) < tried.tenthsOf[t] ? visit(tried, t) : 0;
            }
            tried.lapseLocks();
        }
        switch (what) {
            case 0: return worthAtHome(tried);
            case 1: return taken;
            default: return drawn;
        }
    }

    // ---- what is told of all

    public int image() {
        kept.takeOver(now);
        hasImage = true;
        imageTimesRead = timesRead;
        imageSpoonCount = spoonCount;
        return spoonCount;
    }

    public int restore() {
        if (!hasImage || imageTimesRead != timesRead || imageSpoonCount != spoonCount) {
            return STATE;
        }
        now.takeOver(kept);
        return spoonCount;
    }

    public int count(int what) {
        switch (what) {
            case 0: return thiefCount;
            case 1: return spoonCount;
            case 2: return now.monthsGone;
            case 3: return now.feesPaid;
            case 4: return page.size;
            case 5: return spoonsAway();
            case 6: return timesRead;
            default: return OUTSIDE;
        }
    }

    public long digest() {
        long h = withThieves(DIGEST_START);
        h = withHouses(h);
        h = withSpoons(h);
        h = with(h, fewest());
        if (thiefCount > 0) {
            h = withOutlook(h);
        }
        for (int i = 0; i < page.size; i++) {
            h = with(h, page.codes[i]);
        }
        for (int what = 0; what <= 6; what++) {
            h = with(h, count(what));
        }
        return h;
    }

    // ---- what a number names

    private boolean isThief(int thief) {
        return thief >= 0 && thief < thiefCount;
    }

    private boolean isSpoon(int spoon) {
        return spoon >= 0 && spoon < spoonCount;
    }

    private static boolean isHouse(int house) {
        return house >= 0 && house < HOUSES;
    }

    private static int asNumber(boolean is) {
        return is ? 1 : 0;
    }

    // ---- letters and contracts

    private static int byteOf(long w, int place) {
        return (int) (w >>> (8 * place)) & 255;
    }

    /** How many letters w tells; NONE, if it tells them wrongly. */
    private static int lettersTold(long w) {
        int told = 0;
        for (int i = 0; i < LETTERS_IN_LONG; i++) {
            int code = byteOf(w, i);
            if (code > LAST_LETTER_CODE || (code != 0 && told < i)) {
                return NONE;
            }
            told += code != 0 ? 1 : 0;
        }
        return told;
    }

    private static Thief hired(int kind, int payer, int robbed, int fee) {
        switch (kind) {
            case Thief.SKILLED: return new Skilled(payer, robbed, fee);
            case Thief.BROTHER: return new Brother(payer, robbed, fee);
            case Thief.HONEST: return new Honest(payer, robbed, fee);
            case Thief.MASTER: return new Master(payer, robbed, fee);
            default: return new Thief(payer, robbed, fee);
        }
    }

    private static boolean isOfKind(Thief t, int kind) {
        switch (kind) {
            case Thief.SKILLED: return t instanceof Skilled;
            case Thief.BROTHER: return t instanceof Brother;
            case Thief.HONEST: return t instanceof Honest;
            case Thief.MASTER: return t instanceof Master;
            default: return true;
        }
    }

    // ---- months

    /** A month in which all thieves come but one (NONE: all come): how many spoons are taken. */
    private int monthWithout(City c, int absent) {
        int taken = 0;
        for (int t = 0; t < thiefCount; t++) {
            taken += t != absent ? visit(c, t) : 0;
        }
        c.lapseLocks();
        return taken;
    }

    /** One thief comes: how many spoons he takes. */
    private int visit(City c, int thief) {
        Thief t = thieves[thief];
        int from = t.robs(c.isPaid[thief]);
        int to = t.robs(!c.isPaid[thief]);
        if (t.isKeptOut(c.dogs[from], c.locks[from])) {
            return 0;
        }
        int taken = 0;
        for (int i = 0; i < t.mostTaken(); i++) {
            int s = picked(c, t, from);
            if (s == NONE) {
                break;
            }
            c.at[s] = to;
            taken++;
        }
        return taken;
    }

    /** The spoon in a house that a thief likes best, of like ones the first; NONE, if none is there. */
    private int picked(City c, Thief t, int house) {
        int best = NONE;
        for (int s = 0; s < spoonCount; s++) {
            if (c.at[s] == house && (best == NONE || t.likesBetter(worths[s], worths[best]))) {
                best = s;
            }
        }
        return best;
    }

    private int worthIn(City c, int house) {
        int sum = 0;
        for (int s = 0; s < spoonCount; s++) {
            sum += c.at[s] == house ? worths[s] : 0;
        }
        return sum;
    }

    private int worthAtHome(City c) {
        int sum = 0;
        for (int s = 0; s < spoonCount; s++) {
            sum += c.at[s] == owners[s] ? worths[s] : 0;
        }
        return sum;
    }

    private int spoonsAway() {
        int away = 0;
        for (int s = 0; s < spoonCount; s++) {
            away += now.at[s] != owners[s] ? 1 : 0;
        }
        return away;
    }

    private static int nextSeed(int seed) {
        return (int) ((1103515245L * seed + 12345L) & 0x7fffffffL);
    }

    private static int drawOfTen(int seed) {
        return (seed / 65536) % 10;
    }

    // ---- chances

    /** Fills odds with how likely the spoon is in each house, as parts of what it answers. */
    private long spreadOdds(int spoon, int months) {
        tried.takeOver(now);
        for (int h = 0; h < HOUSES; h++) {
            odds[h] = h == now.at[spoon] ? 1 : 0;
        }
        // At most 8 thieves in 2 months: 10 to the 16 is well within a long.
        long below = 1;
        for (int m = 0; m < months; m++) {
            for (int t = 0; t < thiefCount; t++) {
                spreadBy(t);
                below *= ALL_TENTHS;
            }
            tried.lapseLocks();
        }
        return below;
    }

    private void spreadBy(int thief) {
        Thief t = thieves[thief];
        int from = t.robs(tried.isPaid[thief]);
        int to = t.robs(!tried.isPaid[thief]);
        boolean takes = t.mostTaken() > 0 && !t.isKeptOut(tried.dogs[from], tried.locks[from]);
        long moved = takes ? odds[from] * tried.tenthsOf[thief] : 0;
        for (int h = 0; h < HOUSES; h++) {
            odds[h] *= ALL_TENTHS;
        }
        odds[from] -= moved;
        odds[to] += moved;
    }

    private static long greatestDivisor(long a, long b) {
        for (int i = 0; i < EUCLID_STEPS && b != 0; i++) {
            long rest = a % b;
            a = b;
            b = rest;
        }
        return a;
    }

    // ---- whom to pay

    private int bestSet(int house, int months) {
        int could = couldBePaidBy(house);
        int best = 0;
        int mostLeft = leftBy(house, months, 0);
        for (int set = 1; set < 1 << thiefCount; set++) {
            if ((set & ~could) == 0) {
                int left = leftBy(house, months, set);
                // Sets come by least bits, so only a smaller like one is better.
                if (left > mostLeft || (left == mostLeft && Integer.bitCount(set) < Integer.bitCount(best))) {
                    best = set;
                    mostLeft = left;
                }
            }
        }
        return best;
    }

    private int couldBePaidBy(int house) {
        int set = 0;
        for (int t = 0; t < thiefCount; t++) {
            set |= thieves[t].payer == house ? 1 << t : 0;
        }
        return set;
    }

    /** What is left to a house that pays just this set of its thieves for so many months. */
    private int leftBy(int house, int months, int set) {
        tried.takeOver(now);
        int fees = 0;
        for (int t = 0; t < thiefCount; t++) {
            if (thieves[t].payer == house) {
                tried.isPaid[t] = (set >> t & 1) == 1;
                fees += tried.isPaid[t] ? thieves[t].fee : 0;
            }
        }
        for (int m = 0; m < months; m++) {
            monthWithout(tried, NONE);
        }
        return worthIn(tried, house) - fees * months;
    }

    // ---- who did not come

    private boolean wouldBeAsSeen(int absent) {
        tried.takeOver(now);
        monthWithout(tried, absent);
        for (int s = 0; s < spoonCount; s++) {
            if (tried.seenAt[s] != NONE && tried.seenAt[s] != tried.at[s]) {
                return false;
            }
        }
        return true;
    }

    // ---- fewest payments

    /** What each house is owed, less what it owes. */
    private void netAll() {
        for (int h = 0; h < HOUSES; h++) {
            nets[h] = 0;
        }
        for (int s = 0; s < spoonCount; s++) {
            nets[owners[s]] += worths[s];
            nets[now.at[s]] -= worths[s];
        }
    }

    private int mostGroupsWithOneLess(int set) {
        int most = 0;
        for (int h = 0; h < HOUSES; h++) {
            if ((set >> h & 1) == 1) {
                most = Math.max(most, mostGroups[set ^ 1 << h]);
            }
        }
        return most;
    }

    // ---- digest

    private static long with(long h, long number) {
        return 31 * h + number;
    }

    private long withThieves(long start) {
        long h = start;
        for (int t = 0; t < thiefCount; t++) {
            for (int what = 0; what <= 5; what++) {
                h = with(h, about(t, what));
            }
        }
        return h;
    }

    private long withHouses(long start) {
        long h = start;
        for (int house = 0; house < HOUSES; house++) {
            h = with(h, now.locks[house]);
            h = with(h, asNumber(now.dogs[house]));
            h = with(h, worthIn(now, house));
        }
        return h;
    }

    private long withSpoons(long start) {
        long h = start;
        for (int s = 0; s < spoonCount; s++) {
            for (int what = 0; what <= 3; what++) {
                h = with(h, silver(s, what));
            }
        }
        return h;
    }

    private long withOutlook(long start) {
        long h = with(start, still());
        h = with(h, who());
        for (int house = 0; house < HOUSES; house++) {
            int set = bestSet(house, DIGEST_WHOM_MONTHS);
            h = with(h, leftBy(house, DIGEST_WHOM_MONTHS, set));
            h = with(h, set);
        }
        return h;
    }

    // ---- classes

    /** The letters that have come and are not yet read. */
    private static final class Page {
        static final int MOST_LETTERS = 40;

        final int[] codes = new int[MOST_LETTERS];
        int size = 0;
    }

    /** Reads a page as contracts, letter by letter. */
    private static final class Reader {
        private static final int AT_START = 0, AT_PAYER = 1, AT_ROBBED = 2, AT_FEE = 3, AT_END = 4;

        final int[] kinds = new int[MOST_THIEVES];
        final int[] payers = new int[MOST_THIEVES];
        final int[] robbed = new int[MOST_THIEVES];
        final int[] fees = new int[MOST_THIEVES];
        /** How many contracts were read to their end. */
        int read = 0;
        private int stage = AT_START;

        /** Reads until a letter that no contracts have there: its place, or the page's size. */
        int readAhead(Page page) {
            read = 0;
            stage = AT_START;
            int place = 0;
            while (place < page.size && takes(page.codes[place])) {
                place++;
            }
            return place;
        }

        boolean isAtEnd() {
            return stage == AT_END;
        }

        private boolean takes(int code) {
            switch (stage) {
                case AT_START: return takesStart(code);
                case AT_PAYER: return takesPayer(code);
                case AT_ROBBED: return takesRobbed(code);
                case AT_FEE: return takesFee(code);
                default: return takesComma(code);
            }
        }

        private boolean takesStart(int code) {
            if (read >= MOST_THIEVES) {
                return false;
            }
            kinds[read] = kindOf(code);
            if (kinds[read] == Thief.PLAIN) {
                return takesPayer(code);
            }
            stage = AT_PAYER;
            return true;
        }

        private boolean takesPayer(int code) {
            if (!isHouse(code - '0')) {
                return false;
            }
            payers[read] = code - '0';
            stage = AT_ROBBED;
            return true;
        }

        private boolean takesRobbed(int code) {
            if (!isHouse(code - '0') || code - '0' == payers[read]) {
                return false;
            }
            robbed[read] = code - '0';
            stage = AT_FEE;
            return true;
        }

        private boolean takesFee(int code) {
            if (code < '0' || code > '9') {
                return false;
            }
            fees[read] = code - '0';
            read++;
            stage = AT_END;
            return true;
        }

        private boolean takesComma(int code) {
            if (code != ',' || read >= MOST_THIEVES) {
                return false;
            }
            stage = AT_START;
            return true;
        }

        /** The kind that a letter tells; PLAIN, if it tells none. */
        private static int kindOf(int code) {
            switch (code) {
                case 's': return Thief.SKILLED;
                case 'b': return Thief.BROTHER;
                case 'h': return Thief.HONEST;
                case 'm': return Thief.MASTER;
                default: return Thief.PLAIN;
            }
        }
    }

    /** One contract's thief, as it tells him; what changes of him stands in a City. */
    private static class Thief {
        static final int PLAIN = 0, SKILLED = 1, BROTHER = 2, HONEST = 3, MASTER = 4;

        final int payer;
        final int robbed;
        final int fee;

        Thief(int payer, int robbed, int fee) {
            this.payer = payer;
            this.robbed = robbed;
            this.fee = fee;
        }

        int kind() {
            return PLAIN;
        }

        /** The house that he takes from; if he is not paid, that is his own payer's. */
        final int robs(boolean isPaid) {
            return isPaid ? robbed : payer;
        }

        boolean isKeptOut(boolean dog, int lock) {
            return dog || lock > 0;
        }

        int mostTaken() {
            return 1;
        }

        boolean likesBetter(int worth, int other) {
            return worth > other;
        }
    }

    private static class Skilled extends Thief {
        Skilled(int payer, int robbed, int fee) {
            super(payer, robbed, fee);
        }

        int kind() {
            return SKILLED;
        }

        int mostTaken() {
            return 2;
        }
    }

    private static final class Brother extends Thief {
        Brother(int payer, int robbed, int fee) {
            super(payer, robbed, fee);
        }

        int kind() {
            return BROTHER;
        }

        boolean likesBetter(int worth, int other) {
            return worth < other;
        }
    }

    private static final class Honest extends Thief {
        Honest(int payer, int robbed, int fee) {
            super(payer, robbed, fee);
        }

        int kind() {
            return HONEST;
        }

        int mostTaken() {
            return 0;
        }
    }

    private static final class Master extends Skilled {
        Master(int payer, int robbed, int fee) {
            super(payer, robbed, fee);
        }

        int kind() {
            return MASTER;
        }

        boolean isKeptOut(boolean dog, int lock) {
            return dog;
        }
    }

    /** All that an image keeps, and so all that months change. */
    private static final class City {
        final int[] at = new int[MOST_SPOONS];
        final int[] seenAt = new int[MOST_SPOONS];
        final int[] locks = new int[HOUSES];
        final boolean[] dogs = new boolean[HOUSES];
        final boolean[] isPaid = new boolean[MOST_THIEVES];
        final int[] tenthsOf = new int[MOST_THIEVES];
        int monthsGone = 0;
        int feesPaid = 0;

        void takeOver(City other) {
            for (int s = 0; s < MOST_SPOONS; s++) {
                at[s] = other.at[s];
                seenAt[s] = other.seenAt[s];
            }
            for (int h = 0; h < HOUSES; h++) {
                locks[h] = other.locks[h];
                dogs[h] = other.dogs[h];
            }
            for (int t = 0; t < MOST_THIEVES; t++) {
                isPaid[t] = other.isPaid[t];
                tenthsOf[t] = other.tenthsOf[t];
            }
            monthsGone = other.monthsGone;
            feesPaid = other.feesPaid;
        }

        void lapseLocks() {
            for (int h = 0; h < HOUSES; h++) {
                locks[h] = Math.max(0, locks[h] - 1);
            }
        }
    }
}
