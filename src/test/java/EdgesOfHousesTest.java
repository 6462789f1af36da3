/** The edges that the document names for houses, spoons and a month (promises 10 to 15). */
public final class EdgesOfHousesTest {
    private static final int NONE = Edge.NONE, UNKNOWN = Edge.UNKNOWN, OUTSIDE = Edge.OUTSIDE;
    private static final int STATE = Edge.STATE, FULL = Edge.FULL;

    private static void due(String call, long got, long want) {
        Check.due(call, got, want);
    }

    public static void main(String[] args) {
        lockIsZeroAtFirst();
        lockHouseOfARange();
        lockZeroToNine();
        dogIsNowhereAtFirst();
        dogHouseOfARange();
        spoonHouseOfARange();
        spoonWorthOfARange();
        spoonEightAtMost();
        spoonRefusalsInOrder();
        spoonIsNotSeenAtFirst();
        silverSpoonOfARange();
        silverWhatOfARange();
        silverOwnerStays();
        worthHouseOfARange();
        worthOfNoneAndOfAll();
        monthWithoutContracts();
        monthWithoutSpoons();
        monthByNumber();
        monthOfOneNotPaid();
        monthDogKeepsAll();
        monthLockAboveZero();
        monthLockDoesNotKeepAMaster();
        monthLocksLapseBehindAllThieves();
        monthLocksZeroAtLeast();
        monthDogAndLockWhereItIsBrought();
        monthMostWorthLeastNumber();
        monthSkilledTakesUpToTwo();
        monthSkilledOfLikeOnes();
        monthBrotherLeastWorthLeastNumber();
        monthHonestTakesNone();
        monthCountsTwiceWhatIsTakenTwice();
        monthFees();
        Check.finish();
    }

    // ---- 10: lock

    private static void lockIsZeroAtFirst() {
        for (int house = 0; house < 8; house++) {
            due("10: at first, " + house, new ThievesPaid().lock(house, 9), 0);
        }
    }

    private static void lockHouseOfARange() {
        for (int house = 0; house < 8; house++) {
            ThievesPaid x = Edge.full();
            due("10: house " + house, x.lock(house, 7), 0);
            for (int other = 0; other < 8; other++) {
                due("10: of house " + other, Edge.lockOf(x, other), other == house ? 7 : 0);
            }
        }
        for (int house : Edge.NO_HOUSES) {
            Edge.changesNothing("10: house " + house, Edge::busy, x -> x.lock(house, 5), UNKNOWN);
            Edge.changesNothing("10: house " + house + ", months", Edge::busy, x -> x.lock(house, 10), UNKNOWN);
        }
    }

    private static void lockZeroToNine() {
        ThievesPaid x = Edge.busy();
        int was = 4;
        for (int months = 0; months <= 9; months++) {
            due("10: to " + months, x.lock(6, months), was);
            was = months;
        }
        due("10: nine", Edge.lockOf(x, 6), 9);
        for (int months : Edge.outOf(0, 9)) {
            Edge.changesNothing("10: to " + months, Edge::busy, y -> y.lock(6, months), OUTSIDE);
            Edge.changesNothing("10: without contracts, to " + months, ThievesPaid::new, y -> y.lock(0, months), OUTSIDE);
        }
    }

    // ---- 11: dog

    private static void dogIsNowhereAtFirst() {
        for (int house = 0; house < 8; house++) {
            due("11: at first, " + house, new ThievesPaid().dog(house, true), 0);
        }
    }

    private static void dogHouseOfARange() {
        for (int house = 0; house < 8; house++) {
            ThievesPaid x = Edge.full();
            due("11: house " + house, x.dog(house, true), 0);
            for (int other = 0; other < 8; other++) {
                due("11: of house " + other, Edge.dogOf(x, other), other == house ? 1 : 0);
            }
        }
        for (int house : Edge.NO_HOUSES) {
            Edge.changesNothing("11: house " + house, Edge::busy, x -> x.dog(house, true), UNKNOWN);
            Edge.changesNothing("11: house " + house + ", none", Edge::busy, x -> x.dog(house, false), UNKNOWN);
        }
        Edge.changesNothing("11: one more where one is", Edge::busy, x -> x.dog(7, true), 1);
        Edge.changesNothing("11: none where none is", Edge::busy, x -> x.dog(0, false), 0);
    }

    // ---- 12: spoon

    private static void spoonHouseOfARange() {
        for (int house = 0; house < 8; house++) {
            ThievesPaid x = new ThievesPaid();
            due("12: house " + house, x.spoon(house, 50), 0);
            due("12: it is there", x.silver(0, 2), house);
            due("12: it is its own", x.silver(0, 1), house);
        }
        for (int house : Edge.NO_HOUSES) {
            Edge.changesNothing("12: house " + house, Edge::busy, x -> x.spoon(house, 50), UNKNOWN);
        }
    }

    private static void spoonWorthOfARange() {
        for (int worth : new int[] {1, 2, 98, 99}) {
            ThievesPaid x = new ThievesPaid();
            due("12: worth " + worth, x.spoon(3, worth), 0);
            due("12: is " + worth, x.silver(0, 0), worth);
        }
        for (int worth : Edge.outOf(1, 99)) {
            Edge.changesNothing("12: worth " + worth, Edge::busy, x -> x.spoon(3, worth), OUTSIDE);
            Edge.changesNothing("12: the first of worth " + worth, ThievesPaid::new, x -> x.spoon(3, worth), OUTSIDE);
        }
    }

    private static void spoonEightAtMost() {
        ThievesPaid x = new ThievesPaid();
        for (int n = 0; n < 8; n++) {
            due("12: number " + n, x.spoon(5, 9), n);
            due("12: how many", x.count(1), n + 1);
        }
        due("12: the ninth", x.spoon(5, 9), FULL);
        due("12: still eight", x.count(1), 8);
        Edge.changesNothing("12: the ninth changes nothing", Edge::full, y -> y.spoon(5, 9), FULL);
    }

    private static void spoonRefusalsInOrder() {
        for (int house : new int[] {-1, 8}) {
            for (int worth : new int[] {0, 100}) {
                Edge.changesNothing("12: no house, no worth, full", Edge::full, x -> x.spoon(house, worth), UNKNOWN);
                Edge.changesNothing("12: no house, no worth", Edge::busy, x -> x.spoon(house, worth), UNKNOWN);
                Edge.changesNothing("12: no worth, full", Edge::full, x -> x.spoon(0, worth), OUTSIDE);
            }
            Edge.changesNothing("12: no house, full", Edge::full, x -> x.spoon(house, 1), UNKNOWN);
        }
    }

    private static void spoonIsNotSeenAtFirst() {
        ThievesPaid x = new ThievesPaid();
        for (int n = 0; n < 8; n++) {
            x.spoon(n, 1);
            due("12: not seen, " + n, x.silver(n, 3), NONE);
        }
    }

    // ---- 13: silver

    private static void silverSpoonOfARange() {
        due("13: the first", Edge.full().silver(0, 0), 99);
        due("13: the last of eight", Edge.full().silver(7, 0), 92);
        due("13: the last of five", Edge.busy().silver(4, 0), 50);
        for (int spoon : Edge.outOf(0, 4)) {
            Edge.changesNothing("13: of five " + spoon, Edge::busy, x -> x.silver(spoon, 0), UNKNOWN);
            Edge.changesNothing("13: of five " + spoon + ", what", Edge::busy, x -> x.silver(spoon, 4), UNKNOWN);
        }
        for (int spoon : Edge.outOf(0, 7)) {
            Edge.changesNothing("13: of eight " + spoon, Edge::full, x -> x.silver(spoon, 3), UNKNOWN);
        }
    }

    private static void silverWhatOfARange() {
        Edge.changesNothing("13: what 0", Edge::busy, x -> x.silver(0, 0), 30);
        Edge.changesNothing("13: what 3", Edge::busy, x -> x.silver(1, 3), 2);
        Edge.changesNothing("13: what 3, not seen", Edge::busy, x -> x.silver(2, 3), NONE);
        for (int what : Edge.outOf(0, 3)) {
            Edge.changesNothing("13: what " + what, Edge::busy, x -> x.silver(0, what), OUTSIDE);
        }
    }

    private static void silverOwnerStays() {
        ThievesPaid x = Check.city("010,200");
        x.spoon(1, 5);
        x.month();
        due("13: the owner", x.silver(0, 1), 1);
        due("13: the house", x.silver(0, 2), 2);
    }

    // ---- 14: worth

    private static void worthHouseOfARange() {
        ThievesPaid x = new ThievesPaid();
        for (int house = 0; house < 8; house++) {
            x.spoon(house, 10 + house);
        }
        for (int house = 0; house < 8; house++) {
            due("14: house " + house, x.worth(house), 10 + house);
        }
        for (int house : Edge.NO_HOUSES) {
            Edge.changesNothing("14: house " + house, Edge::busy, y -> y.worth(house), UNKNOWN);
        }
    }

    private static void worthOfNoneAndOfAll() {
        ThievesPaid x = new ThievesPaid();
        for (int n = 0; n < 8; n++) {
            due("14: of " + n, x.worth(7), 99 * n);
            x.spoon(7, 99);
        }
        due("14: of eight", x.worth(7), 792);
        due("14: beside it", x.worth(6), 0);
    }

    // ---- 15: month

    private static void monthWithoutContracts() {
        Edge.changesNothing("15: no contracts", Edge::withoutContracts, ThievesPaid::month, STATE);
        Edge.changesNothing("15: a new one", ThievesPaid::new, ThievesPaid::month, STATE);
    }

    private static void monthWithoutSpoons() {
        ThievesPaid x = Check.city("019");
        due("15: no spoons", x.month(), 0);
        due("15: it has gone by", x.count(2), 1);
        due("15: it is paid", x.count(3), 9);
    }

    /** The second thief finds what the first has brought, and not the other way round. */
    private static void monthByNumber() {
        ThievesPaid on = Check.city("010,200");
        on.spoon(1, 5);
        due("15: brought on", on.month(), 2);
        due("15: in 2", on.silver(0, 2), 2);
        ThievesPaid late = Check.city("200,010");
        late.spoon(1, 5);
        due("15: came too early", late.month(), 1);
        due("15: in 0", late.silver(0, 2), 0);
        due("15: then it goes on", late.month(), 1);
        due("15: in 2 then", late.silver(0, 2), 2);
    }

    private static void monthOfOneNotPaid() {
        ThievesPaid x = Check.city("015");
        x.spoon(0, 5);
        due("15: paid, he leaves his own", x.month(), 0);
        x.paid(0, false);
        due("15: not paid, he robs it", x.month(), 1);
        due("15: to the other house", x.silver(0, 2), 1);
        due("15: nothing is there now", x.month(), 0);
        x.paid(0, true);
        due("15: paid again, he brings it back", x.month(), 1);
        due("15: home", x.silver(0, 2), 0);
    }

    private static void monthDogKeepsAll() {
        for (String kind : new String[] {"", "s", "b", "h", "m"}) {
            ThievesPaid x = Check.city(kind + "010");
            x.spoon(1, 5);
            x.dog(1, true);
            due("15: a dog against '" + kind + "'", x.month(), 0);
            due("15: it stays", x.silver(0, 2), 1);
            x.dog(1, false);
            due("15: without it, '" + kind + "'", x.month(), kind.equals("h") ? 0 : 1);
            x.paid(0, false);
            x.dog(0, true);
            due("15: a dog in his own house, '" + kind + "'", x.month(), 0);
        }
    }

    private static void monthLockAboveZero() {
        for (String kind : new String[] {"", "s", "b"}) {
            for (int lock = 0; lock <= 9; lock++) {
                ThievesPaid x = Check.city(kind + "010");
                x.spoon(1, 5);
                x.lock(1, lock);
                for (int m = 0; m < lock; m++) {
                    due("15: lock " + lock + " against '" + kind + "', month " + m, x.month(), 0);
                }
                due("15: lock " + lock + " has lapsed, '" + kind + "'", x.month(), 1);
            }
            ThievesPaid own = Check.city(kind + "010");
            own.spoon(0, 5);
            own.paid(0, false);
            own.lock(0, 1);
            due("15: a lock of his own house, '" + kind + "'", own.month(), 0);
            due("15: lapsed, '" + kind + "'", own.month(), 1);
        }
    }

    private static void monthLockDoesNotKeepAMaster() {
        for (int lock : new int[] {0, 1, 9}) {
            ThievesPaid x = Check.city("m010");
            x.spoon(1, 5);
            x.lock(1, lock);
            due("15: a master, lock " + lock, x.month(), 1);
            x.paid(0, false);
            x.lock(0, lock);
            due("15: not paid, lock " + lock, x.month(), 1);
            x.paid(0, true);
            x.lock(1, lock);
            x.dog(1, true);
            due("15: a dog and lock " + lock, x.month(), 0);
        }
    }

    /** A lock of one month keeps each thief of the month, the last one too. */
    private static void monthLocksLapseBehindAllThieves() {
        ThievesPaid x = Check.city("010,010,010,010,010,010,010,010");
        for (int s = 0; s < 8; s++) {
            x.spoon(1, 5);
        }
        x.lock(1, 1);
        due("15: nobody in this month", x.month(), 0);
        due("15: all in the next", x.month(), 8);
    }

    private static void monthLocksZeroAtLeast() {
        ThievesPaid x = Check.city("010");
        for (int house = 0; house < 8; house++) {
            x.lock(house, house < 2 ? house : house + 2);
        }
        int[][] want = {{0, 0, 3, 4, 5, 6, 7, 8}, {0, 0, 2, 3, 4, 5, 6, 7}};
        for (int m = 0; m < 2; m++) {
            x.month();
            for (int house = 0; house < 8; house++) {
                due("15: lock " + house + " behind " + (m + 1), Edge.lockOf(x, house), want[m][house]);
            }
        }
        for (int m = 0; m < 9; m++) {
            x.month();
        }
        for (int house = 0; house < 8; house++) {
            due("15: lock " + house + " in the end", Edge.lockOf(x, house), 0);
        }
    }

    private static void monthDogAndLockWhereItIsBrought() {
        for (String kind : new String[] {"", "s", "b", "m"}) {
            ThievesPaid x = Check.city(kind + "010");
            x.spoon(1, 5);
            x.dog(0, true);
            x.lock(0, 9);
            due("15: brought to a dog and a lock, '" + kind + "'", x.month(), 1);
            due("15: it is there, '" + kind + "'", x.silver(0, 2), 0);
        }
    }

    /** Which spoons of house 1 are in house 0 behind one month, as bits. */
    private static int taken(String contract, int... worths) {
        ThievesPaid x = Check.city(contract);
        for (int worth : worths) {
            x.spoon(1, worth);
        }
        int told = x.month();
        int bits = 0;
        for (int s = 0; s < worths.length; s++) {
            bits |= x.silver(s, 2) == 0 ? 1 << s : 0;
        }
        due("15: as many as told, " + contract, told, Integer.bitCount(bits));
        return bits;
    }

    private static void monthMostWorthLeastNumber() {
        due("15: none", taken("010"), 0);
        due("15: the only one", taken("010", 1), 1);
        due("15: most worth, first", taken("010", 99, 98), 1);
        due("15: most worth, last", taken("010", 98, 99), 2);
        due("15: like ones", taken("010", 50, 50, 50), 1);
        due("15: like ones behind a lesser one", taken("010", 1, 50, 50), 2);
        due("15: the last of eight", taken("010", 1, 2, 3, 4, 5, 6, 7, 8), 128);
        due("15: eight like ones", taken("010", 9, 9, 9, 9, 9, 9, 9, 9), 1);
    }

    private static void monthSkilledTakesUpToTwo() {
        for (String contract : new String[] {"s010", "m010"}) {
            due("15: of none, " + contract, taken(contract), 0);
            due("15: of one, " + contract, taken(contract, 1), 1);
            due("15: of two, " + contract, taken(contract, 1, 2), 3);
            due("15: of three, " + contract, taken(contract, 1, 2, 3), 6);
            due("15: of three the ends, " + contract, taken(contract, 9, 2, 3), 5);
            due("15: of eight, " + contract, taken(contract, 8, 1, 2, 3, 4, 5, 6, 7), 129);
        }
    }

    private static void monthSkilledOfLikeOnes() {
        for (String contract : new String[] {"s010", "m010"}) {
            due("15: three like ones, " + contract, taken(contract, 5, 5, 5), 3);
            due("15: the second of like ones, " + contract, taken(contract, 5, 5, 9), 5);
            due("15: two like ones ahead, " + contract, taken(contract, 1, 9, 9, 9), 6);
        }
    }

    private static void monthBrotherLeastWorthLeastNumber() {
        due("15: a brother, of none", taken("b010"), 0);
        due("15: of one", taken("b010", 99), 1);
        due("15: least worth, first", taken("b010", 1, 2), 1);
        due("15: least worth, last", taken("b010", 2, 1), 2);
        due("15: like least ones", taken("b010", 9, 1, 1), 2);
        due("15: all alike", taken("b010", 9, 9, 9, 9, 9, 9, 9, 9), 1);
        due("15: the last of eight", taken("b010", 9, 8, 7, 6, 5, 4, 3, 2), 128);
    }

    private static void monthHonestTakesNone() {
        due("15: an honest one", taken("h010", 1, 99), 0);
        ThievesPaid x = Check.city("h015");
        x.spoon(0, 9);
        x.paid(0, false);
        due("15: not paid, none either", x.month(), 0);
        due("15: no fee for it", x.count(3), 0);
    }

    private static void monthCountsTwiceWhatIsTakenTwice() {
        ThievesPaid x = Check.city("010,100,010,100,010,100,010,100");
        x.spoon(1, 5);
        due("15: one spoon, eight times", x.month(), 8);
        due("15: it is home", x.count(5), 0);
        ThievesPaid two = Check.city("s010,m100,s010,m100,s010,m100,s010,m100");
        two.spoon(1, 5);
        two.spoon(1, 5);
        two.spoon(1, 1);
        due("15: two at a time, eight times", two.month(), 16);
    }

    private static void monthFees() {
        ThievesPaid none = Check.city("010");
        none.month();
        due("15: a fee of 0", none.count(3), 0);
        ThievesPaid all = Check.city("019,019,019,019,019,019,019,019");
        all.month();
        due("15: eight fees of 9", all.count(3), 72);
        all.tenths(0, 0);
        all.month();
        due("15: tenths are nothing to a month", all.count(3), 144);
        for (int t = 0; t < 8; t++) {
            all.paid(t, false);
        }
        all.month();
        due("15: nobody is paid", all.count(3), 144);
        due("15: three months", all.count(2), 3);
    }
}
