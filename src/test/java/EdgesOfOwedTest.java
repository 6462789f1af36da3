import java.math.BigInteger;

/** The edges that the document names for who did not come, what is owed, and months by a seed (promises 20 to 24). */
public final class EdgesOfOwedTest {
    private static final int NONE = Edge.NONE, UNKNOWN = Edge.UNKNOWN, OUTSIDE = Edge.OUTSIDE, STATE = Edge.STATE;
    private static final int LEAST = Edge.LEAST, GREATEST = Edge.GREATEST;

    private static void due(String call, long got, long want) {
        Check.due(call, got, want);
    }

    public static void main(String[] args) {
        seenSpoonOfARange();
        seenHouseOrNone();
        seenTellsWhereSoFar();
        whoWithoutContracts();
        whoWithNothingSeen();
        whoOfAllThatWereSeen();
        whoOneAloneDidNotCome();
        whoInAMonthOfLocks();
        whoIsOfTheMonthFromNow();
        owesHousesOfARange();
        owesTheSameHouse();
        owesNothingAndAll();
        owesNotItsOwn();
        fewestZeroToSeven();
        fewestOfAlikeSums();
        fewestNeedsNoContracts();
        fewestIsOfNow();
        monthsTimesOneToSixty();
        monthsSeedZeroAtLeast();
        monthsWhatZeroToTwo();
        monthsRefusalsInOrder();
        monthsDrawBelowTenths();
        monthsRestByTwoToThe31();
        monthsOneDrawForEachThief();
        monthsLocksLapse();
        monthsChangeNothing();
        Check.finish();
    }

    private static ThievesPaid withSpoon(String contracts, int house, int worth) {
        ThievesPaid x = Check.city(contracts);
        x.spoon(house, worth);
        return x;
    }

    // ---- 20: seen

    private static void seenSpoonOfARange() {
        due("20: the first", Edge.full().seen(0, 3), NONE);
        due("20: the last of eight", Edge.full().seen(7, 3), NONE);
        due("20: the last of five", Edge.busy().seen(4, 3), NONE);
        for (int spoon : Edge.outOf(0, 4)) {
            Edge.changesNothing("20: of five " + spoon, Edge::busy, x -> x.seen(spoon, 3), UNKNOWN);
            Edge.changesNothing("20: of five " + spoon + ", none", Edge::busy, x -> x.seen(spoon, NONE), UNKNOWN);
            Edge.changesNothing("20: of five " + spoon + ", house", Edge::busy, x -> x.seen(spoon, 8), UNKNOWN);
        }
        for (int spoon : Edge.outOf(0, 7)) {
            Edge.changesNothing("20: of eight " + spoon, Edge::full, x -> x.seen(spoon, 3), UNKNOWN);
        }
    }

    private static void seenHouseOrNone() {
        for (int house = -1; house < 8; house++) {
            ThievesPaid x = Edge.busy();
            due("20: house " + house, x.seen(0, house), 0);
            due("20: told of it", x.silver(0, 3), house);
        }
        for (int house : new int[] {-2, 8, 9, -3, -101, LEAST, GREATEST}) {
            Edge.changesNothing("20: house " + house, Edge::busy, x -> x.seen(0, house), UNKNOWN);
        }
        Edge.changesNothing("20: none, as it was", Edge::busy, x -> x.seen(2, NONE), NONE);
        Edge.changesNothing("20: where it was, as it was", Edge::busy, x -> x.seen(1, 2), 2);
    }

    private static void seenTellsWhereSoFar() {
        ThievesPaid x = new ThievesPaid();
        x.spoon(0, 1);
        due("20: without contracts", x.seen(0, 7), NONE);
        due("20: 7 so far", x.seen(0, 0), 7);
        due("20: 0 so far", x.seen(0, NONE), 0);
        due("20: none so far", x.seen(0, NONE), NONE);
    }

    // ---- 21: who

    private static void whoWithoutContracts() {
        Edge.changesNothing("21: no contracts", Edge::withoutContracts, ThievesPaid::who, STATE);
        Edge.changesNothing("21: a new one", ThievesPaid::new, ThievesPaid::who, STATE);
    }

    /** Of no spoon anything was seen: each alone may not have come, and all may; but no thief who is none. */
    private static void whoWithNothingSeen() {
        String eight = "010,120,230,340,450,560,670,700";
        for (int n = 1; n <= 8; n++) {
            String text = eight.substring(0, 4 * n - 1);
            Edge.changesNothing("21: of " + n + ", no spoons", () -> Check.city(text), ThievesPaid::who, 255 + (1 << n));
            Edge.changesNothing("21: of " + n + ", none seen", () -> withSpoon(text, 1, 5), ThievesPaid::who, 255 + (1 << n));
        }
    }

    private static void whoOfAllThatWereSeen() {
        ThievesPaid x = Check.city("010,230");
        x.spoon(1, 5);
        x.spoon(3, 5);
        x.seen(0, 0);
        x.seen(1, 2);
        due("21: both were taken", x.who(), 256);
        x.seen(1, 3);
        due("21: the second was not", x.who(), 2);
        x.seen(0, 1);
        due("21: neither was", x.who(), 0);
        x.seen(1, NONE);
        due("21: of one it is not told", x.who(), 1);
        x.seen(0, 2);
        due("21: where nobody brings it", x.who(), 0);
    }

    private static void whoOneAloneDidNotCome() {
        ThievesPaid x = withSpoon("010,010,010,010,010,010,010,010", 1, 5);
        x.seen(0, 1);
        due("21: eight, and each alone is not enough", x.who(), 0);
        x.seen(0, 0);
        due("21: eight, and it matters of none", x.who(), 511);
        ThievesPaid last = withSpoon("h010,h010,h010,h010,h010,h010,h010,010", 1, 5);
        last.seen(0, 1);
        due("21: the last bit of a thief", last.who(), 128);
        last.seen(0, 0);
        due("21: all but he", last.who(), 256 + 127);
        ThievesPaid absent = withSpoon("010", 1, 5);
        absent.tenths(0, 0);
        absent.seen(0, 0);
        due("21: tenths are nothing to it", absent.who(), 256);
    }

    private static void whoInAMonthOfLocks() {
        ThievesPaid x = withSpoon("010", 1, 5);
        x.seen(0, 1);
        due("21: no lock", x.who(), 1);
        x.lock(1, 1);
        due("21: a lock of one month", x.who(), 257);
        due("21: it is as it was", Edge.lockOf(x, 1), 1);
        x.lock(1, 0);
        x.dog(1, true);
        due("21: a dog", x.who(), 257);
    }

    private static void whoIsOfTheMonthFromNow() {
        ThievesPaid x = withSpoon("010", 1, 5);
        x.seen(0, 0);
        due("21: ahead of the month", x.who(), 256);
        x.month();
        due("21: behind it the spoon stays where it is", x.who(), 257);
    }

    // ---- 22: owes

    private static void owesHousesOfARange() {
        for (int a = 0; a < 8; a++) {
            int b = (a + 3) % 8;
            ThievesPaid x = withSpoon("" + a + b + "0", b, 40 + a);
            x.month();
            due("22: " + a + " owes " + b, x.owes(a, b), 40 + a);
            due("22: " + b + " owes " + a, x.owes(b, a), 0);
        }
        for (int house : Edge.NO_HOUSES) {
            Edge.changesNothing("22: owes(" + house + ", 0)", Edge::busy, x -> x.owes(house, 0), UNKNOWN);
            Edge.changesNothing("22: owes(7, " + house + ")", Edge::busy, x -> x.owes(7, house), UNKNOWN);
            Edge.changesNothing("22: owes(" + house + ", " + house + ")", Edge::busy, x -> x.owes(house, house), UNKNOWN);
        }
    }

    private static void owesTheSameHouse() {
        for (int house = 0; house < 8; house++) {
            int same = house;
            Edge.changesNothing("22: " + house + " and itself", Edge::full, x -> x.owes(same, same), UNKNOWN);
        }
    }

    private static void owesNothingAndAll() {
        due("22: without spoons", new ThievesPaid().owes(0, 7), 0);
        ThievesPaid x = Check.city("010,010,010,010,010,010,010,010");
        for (int s = 0; s < 8; s++) {
            x.spoon(1, 99);
        }
        due("22: all are at home", x.owes(0, 1), 0);
        x.month();
        due("22: all are away", x.owes(0, 1), 792);
        due("22: the other way round nothing", x.owes(1, 0), 0);
    }

    private static void owesNotItsOwn() {
        ThievesPaid x = withSpoon("010", 0, 9);
        x.spoon(1, 20);
        x.month();
        due("22: only what is another's", x.owes(0, 1), 20);
        due("22: nothing to a third one", x.owes(0, 2), 0);
        x.paid(0, false);
        x.month();
        due("22: home again", x.owes(0, 1), 0);
    }

    // ---- 23: fewest

    /** House 0 owes each of n houses another power of two: they cannot be parted, all others are groups of their own. */
    private static ThievesPaid owing(int n) {
        ThievesPaid x = Check.city("010,020,030,040,050,060,070");
        for (int h = 1; h <= n; h++) {
            x.spoon(h, 1 << (h - 1));
        }
        x.month();
        return x;
    }

    private static void fewestZeroToSeven() {
        for (int n = 0; n <= 7; n++) {
            int debts = n;
            Edge.changesNothing("23: " + n + " debts of one house", () -> owing(debts), ThievesPaid::fewest, n);
        }
    }

    private static void fewestOfAlikeSums() {
        // 0 owes 1, 1 owes 2 as much: 1 is even and a group of its own.
        ThievesPaid even = Check.city("010,120");
        even.spoon(2, 10);
        even.spoon(1, 10);
        even.month();
        due("23: what is owed and owing is even", even.owes(0, 1) + even.owes(1, 2), 20);
        due("23: one payment", even.fewest(), 1);
        // As before, but 1 more: 1 is not even.
        ThievesPaid odd = Check.city("010,120");
        odd.spoon(2, 10);
        odd.spoon(1, 11);
        odd.month();
        due("23: two payments", odd.fewest(), 2);
        // Four pairs of houses, all in debt: four groups.
        ThievesPaid pairs = Check.city("010,230,450,670");
        for (int h = 1; h < 8; h += 2) {
            pairs.spoon(h, 10 * h);
        }
        pairs.month();
        due("23: four pairs", pairs.fewest(), 4);
        // A full round of eight: all are even.
        ThievesPaid round = Check.city("010,120,230,340,450,560,670,700");
        for (int h = 0; h < 8; h++) {
            round.spoon(h, 7);
        }
        round.month();
        due("23: all are even", round.fewest(), 0);
    }

    private static void fewestNeedsNoContracts() {
        Edge.changesNothing("23: a new one", ThievesPaid::new, ThievesPaid::fewest, 0);
        Edge.changesNothing("23: spoons alone", Edge::withoutContracts, ThievesPaid::fewest, 0);
    }

    /** What was owed at an earlier call is nothing to a later one. */
    private static void fewestIsOfNow() {
        ThievesPaid x = owing(7);
        due("23: seven", x.fewest(), 7);
        due("23: seven, asked again", x.fewest(), 7);
        for (int t = 0; t < 7; t++) {
            x.paid(t, false);
        }
        x.month();
        // Each brings the one of most worth from 0: that of 7 to 1, of 6 to 2, of 5 to 3, of 4 home, and so on:
        // 1 and 7, 2 and 6, 3 and 5 are alike by pairs.
        due("23: three pairs now", x.fewest(), 3);
    }

    // ---- 24: months

    private static int nextSeed(int seed) {
        return BigInteger.valueOf(1103515245).multiply(BigInteger.valueOf(seed)).add(BigInteger.valueOf(12345))
            .mod(BigInteger.TWO.pow(31)).intValueExact();
    }

    private static int seedBehind(int seed, int draws) {
        for (int i = 0; i < draws; i++) {
            seed = nextSeed(seed);
        }
        return seed;
    }

    private static void monthsTimesOneToSixty() {
        for (int times = 1; times <= 60; times++) {
            ThievesPaid x = withSpoon("010,100", 1, 5);
            due("24: the seed behind " + times, x.months(times, 77, 2), seedBehind(77, 2 * times));
            due("24: taken in " + times, x.months(times, 77, 1), 2 * times);
        }
        for (int times : new int[] {0, 61, -1, 62, LEAST, GREATEST}) {
            for (int what = 0; what <= 2; what++) {
                int asked = what;
                Edge.changesNothing("24: times " + times + ", what " + what, Edge::busy, x -> x.months(times, 1, asked), OUTSIDE);
            }
        }
    }

    private static void monthsSeedZeroAtLeast() {
        Edge.changesNothing("24: seed 0", () -> Check.city("010"), x -> x.months(1, 0, 2), 12345);
        Edge.changesNothing("24: seed 1", () -> Check.city("010"), x -> x.months(1, 1, 2), 1103527590);
        Edge.changesNothing("24: greatest seed", () -> Check.city("010"), x -> x.months(1, GREATEST, 2), 1043980748);
        for (int seed : new int[] {-1, -2, LEAST, LEAST + 1}) {
            Edge.changesNothing("24: seed " + seed, Edge::busy, x -> x.months(1, seed, 0), OUTSIDE);
        }
    }

    private static void monthsWhatZeroToTwo() {
        ThievesPaid x = Check.city("010,230");
        x.spoon(1, 5);
        x.spoon(3, 9);
        x.spoon(7, 20);
        x.tenths(1, 0);
        due("24: at home", x.months(1, 0, 0), 29);
        due("24: taken", x.months(1, 0, 1), 1);
        due("24: the seed", x.months(1, 0, 2), seedBehind(0, 2));
        for (int what : Edge.outOf(0, 2)) {
            Edge.changesNothing("24: what " + what, Edge::busy, y -> y.months(1, 0, what), OUTSIDE);
        }
        due("24: no spoons at home", Check.city("010").months(60, 0, 0), 0);
        ThievesPaid eight = Check.city("h010");
        for (int s = 0; s < 8; s++) {
            eight.spoon(s, 99);
        }
        due("24: eight spoons at home", eight.months(60, 0, 0), 792);
        due("24: no spoons taken", Check.city("010").months(60, 0, 1), 0);
    }

    private static void monthsRefusalsInOrder() {
        for (int times : new int[] {0, 1, 60, 61}) {
            for (int seed : new int[] {-1, 0, GREATEST}) {
                for (int what : new int[] {-1, 0, 2, 3}) {
                    boolean outside = times < 1 || times > 60 || seed < 0 || what < 0 || what > 2;
                    String call = "24: months(" + times + ", " + seed + ", " + what + ")";
                    Edge.changesNothing(call + " without contracts", Edge::withoutContracts,
                        x -> x.months(times, seed, what), outside ? OUTSIDE : STATE);
                    if (outside) {
                        Edge.changesNothing(call + " with contracts", Edge::busy, x -> x.months(times, seed, what), OUTSIDE);
                    }
                }
            }
        }
    }

    /** For each draw 0 to 9 a seed is looked for; he comes by one tenth more than it, not by as many. */
    private static void monthsDrawBelowTenths() {
        for (int draw = 0; draw <= 9; draw++) {
            int seed = 0;
            while (nextSeed(seed) / 65536 % 10 != draw) {
                seed++;
            }
            for (int tenths = 0; tenths <= 10; tenths++) {
                ThievesPaid x = withSpoon("010", 1, 5);
                x.tenths(0, tenths);
                due("24: draw " + draw + " by " + tenths, x.months(1, seed, 1), draw < tenths ? 1 : 0);
                due("24: at home, draw " + draw + " by " + tenths, x.months(1, seed, 0), draw < tenths ? 0 : 5);
            }
        }
    }

    private static void monthsRestByTwoToThe31() {
        for (int seed : new int[] {2, 3, 65535, 65536, 1 << 30, (1 << 30) + 1, GREATEST - 1, GREATEST}) {
            int then = Check.city("010").months(1, seed, 2);
            due("24: next of " + seed, then, nextSeed(seed));
            Check.holds("24: 0 at least, next of " + seed, then >= 0);
            due("24: it goes on from there", Check.city("010").months(1, then, 2), Check.city("010").months(2, seed, 2));
        }
    }

    /** One draw for each, whether he comes or not, finds something or not. */
    private static void monthsOneDrawForEachThief() {
        String eight = "h010,120,b230,s340,m450,560,670,700";
        for (int n = 1; n <= 8; n++) {
            ThievesPaid x = Check.city(n == 1 ? "h010" : eight.substring(0, n <= 2 ? 8 : n <= 5 ? 8 + 5 * (n - 2) : 23 + 4 * (n - 5)));
            due("24: thieves", x.count(0), n);
            x.tenths(0, 0);
            x.dog(2, true);
            due("24: draws of " + n, x.months(3, 5, 2), seedBehind(5, 3 * n));
        }
    }

    private static void monthsLocksLapse() {
        for (int lock = 0; lock <= 9; lock++) {
            ThievesPaid x = withSpoon("010", 1, 5);
            x.lock(1, lock);
            if (lock > 0) {
                due("24: lock " + lock + " holds", x.months(lock, 3, 1), 0);
            }
            due("24: lock " + lock + " has lapsed", x.months(lock + 1, 3, 1), 1);
            due("24: it is as it was", Edge.lockOf(x, 1), lock);
        }
    }

    private static void monthsChangeNothing() {
        Edge.changesNothing("24: one", Edge::busy, x -> Math.min(0, x.months(1, 3, 1)), 0);
        Edge.changesNothing("24: sixty", Edge::busy, x -> Math.min(0, x.months(60, 3, 1)), 0);
    }
}
