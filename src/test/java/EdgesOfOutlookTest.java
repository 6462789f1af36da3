/** The edges that the document names for what would be (promises 16 to 19). */
public final class EdgesOfOutlookTest {
    private static final int NONE = Edge.NONE, UNKNOWN = Edge.UNKNOWN, OUTSIDE = Edge.OUTSIDE, STATE = Edge.STATE;
    private static final int[] NO_SPOONS_OF_FIVE = Edge.outOf(0, 4);
    private static final int WHOM_UNKNOWN = -100101, WHOM_OUTSIDE = -100102, WHOM_STATE = -100103;

    private static void due(String call, long got, long want) {
        Check.due(call, got, want);
    }

    public static void main(String[] args) {
        whereSpoonOfARange();
        whereMonthsZeroToSixty();
        whereAllThievesCome();
        whereLocksLapse();
        whereRefusalsInOrder();
        chanceSpoonOfARange();
        chanceHouseOfARange();
        chanceMonthsOneAndTwo();
        chancePartZeroAndOne();
        chanceRefusalsInOrder();
        chanceByTenthsZeroToTen();
        chanceInLowestTerms();
        chanceAsTheOnlySpoon();
        chanceOfLocksOneAndTwo();
        chanceOfDogsAndKinds();
        chanceOfSixteenVisits();
        whomHouseOfARange();
        whomMonthsZeroToTwelve();
        whomWhatZeroAndOne();
        whomRefusalsInOrder();
        whomOfNobodyAndOfAll();
        whomOthersAsTheyAre();
        whomIsNeverBelowNobody();
        whomOfLikeOnesFewest();
        whomOfLikeOnesLeastBits();
        stillWithoutContracts();
        stillAtOnce();
        stillBehindSome();
        stillNotInSixty();
        stillFirstOfAll();
        Check.finish();
    }

    // ---- 16: where

    private static void whereSpoonOfARange() {
        ThievesPaid x = Edge.full();
        due("16: the first", x.where(0, 0), x.silver(0, 2));
        due("16: the last of eight", x.where(7, 0), x.silver(7, 2));
        due("16: the last of five", Edge.busy().where(4, 0), Edge.busy().silver(4, 2));
        for (int spoon : NO_SPOONS_OF_FIVE) {
            Edge.changesNothing("16: of five " + spoon, Edge::busy, y -> y.where(spoon, 1), UNKNOWN);
        }
        for (int spoon : Edge.outOf(0, 7)) {
            Edge.changesNothing("16: of eight " + spoon, Edge::full, y -> y.where(spoon, 1), UNKNOWN);
        }
    }

    /** Once on its way, the spoon goes 1, 2, 3 and from 3 by 0 to 1 again: each month tells where. */
    private static ThievesPaid ring() {
        ThievesPaid x = Check.city("030,320,210,100");
        x.spoon(0, 5);
        return x;
    }

    private static void whereMonthsZeroToSixty() {
        Edge.changesNothing("16: behind 0", EdgesOfOutlookTest::ring, x -> x.where(0, 0), 0);
        for (int months = 1; months <= 60; months++) {
            due("16: behind " + months, ring().where(0, months), 1 + (months - 1) % 3);
        }
        Edge.changesNothing("16: behind 60", EdgesOfOutlookTest::ring, x -> x.where(0, 60), 3);
        for (int months : Edge.outOf(0, 60)) {
            Edge.changesNothing("16: behind " + months, EdgesOfOutlookTest::ring, x -> x.where(0, months), OUTSIDE);
        }
    }

    private static void whereAllThievesCome() {
        ThievesPaid x = ring();
        for (int t = 0; t < 4; t++) {
            x.tenths(t, 0);
        }
        due("16: though by 0 tenths", x.where(0, 1), 1);
        x.paid(3, false);
        due("16: paid as they are", x.where(0, 60), 0);
        x.paid(3, true);
        x.dog(2, true);
        due("16: dogs as they are", x.where(0, 60), 2);
    }

    private static void whereLocksLapse() {
        for (int lock = 0; lock <= 9; lock++) {
            ThievesPaid x = Check.city("010");
            x.spoon(1, 5);
            x.lock(1, lock);
            due("16: lock " + lock + " holds", x.where(0, lock), 1);
            due("16: lock " + lock + " has lapsed", x.where(0, lock + 1), 0);
            due("16: it is as it was", Edge.lockOf(x, 1), lock);
        }
    }

    private static void whereRefusalsInOrder() {
        for (int spoon : new int[] {-1, 5, 8}) {
            for (int months : new int[] {-1, 0, 60, 61}) {
                Edge.changesNothing("16: no spoon, with contracts", Edge::busy, x -> x.where(spoon, months), UNKNOWN);
                Edge.changesNothing("16: no spoon, without", Edge::withoutContracts, x -> x.where(spoon, months), UNKNOWN);
            }
        }
        for (int months : new int[] {-1, 61}) {
            Edge.changesNothing("16: no months, with contracts", Edge::busy, x -> x.where(0, months), OUTSIDE);
            Edge.changesNothing("16: no months, without", Edge::withoutContracts, x -> x.where(0, months), OUTSIDE);
        }
        Edge.changesNothing("16: no contracts, 0", Edge::withoutContracts, x -> x.where(0, 0), STATE);
        Edge.changesNothing("16: no contracts, 60", Edge::withoutContracts, x -> x.where(1, 60), STATE);
    }

    // ---- 17: chance

    private static void chanceSpoonOfARange() {
        due("17: the first", Edge.full().chance(0, 1, 0, 1) > 0 ? 1 : 0, 1);
        due("17: the last of eight", Edge.full().chance(7, 1, 0, 1) > 0 ? 1 : 0, 1);
        for (int spoon : NO_SPOONS_OF_FIVE) {
            Edge.changesNothing("17: of five " + spoon, Edge::busy, x -> x.chance(spoon, 1, 0, 0), UNKNOWN);
        }
        for (int spoon : Edge.outOf(0, 7)) {
            Edge.changesNothing("17: of eight " + spoon, Edge::full, x -> x.chance(spoon, 1, 0, 0), UNKNOWN);
        }
    }

    private static void chanceHouseOfARange() {
        ThievesPaid x = Check.city("700");
        x.spoon(0, 5);
        x.tenths(0, 3);
        long[] above = {7, 0, 0, 0, 0, 0, 0, 3};
        for (int house = 0; house < 8; house++) {
            due("17: above, in " + house, x.chance(0, 1, house, 0), above[house]);
            due("17: below, in " + house, x.chance(0, 1, house, 1), above[house] == 0 ? 1 : 10);
        }
        for (int house : Edge.NO_HOUSES) {
            Edge.changesNothing("17: house " + house, Edge::busy, y -> y.chance(0, 1, house, 0), UNKNOWN);
        }
    }

    private static void chanceMonthsOneAndTwo() {
        ThievesPaid x = Check.city("010");
        x.spoon(1, 5);
        x.tenths(0, 1);
        due("17: one month, above", x.chance(0, 1, 0, 0), 1);
        due("17: one month, below", x.chance(0, 1, 0, 1), 10);
        due("17: two months, above", x.chance(0, 2, 0, 0), 19);
        due("17: two months, below", x.chance(0, 2, 0, 1), 100);
        for (int months : Edge.outOf(1, 2)) {
            Edge.changesNothing("17: months " + months, Edge::busy, y -> y.chance(0, months, 0, 0), OUTSIDE);
        }
    }

    private static void chancePartZeroAndOne() {
        for (int part : Edge.outOf(0, 1)) {
            Edge.changesNothing("17: part " + part, Edge::busy, x -> x.chance(0, 1, 0, part), OUTSIDE);
        }
        Edge.changesNothing("17: part 0", EdgesOfOutlookTest::ring, x -> x.chance(0, 2, 2, 0), 1);
        Edge.changesNothing("17: part 1", EdgesOfOutlookTest::ring, x -> x.chance(0, 2, 1, 1), 1);
    }

    private static void chanceRefusalsInOrder() {
        for (int spoon : new int[] {-1, 0, 8}) {
            for (int house : new int[] {-1, 0, 8}) {
                for (int months : new int[] {0, 1, 3}) {
                    for (int part : new int[] {-1, 1, 2}) {
                        String call = "17: chance(" + spoon + ", " + months + ", " + house + ", " + part + ")";
                        long want = spoon != 0 || house != 0 ? UNKNOWN : months != 1 || part != 1 ? OUTSIDE : STATE;
                        Edge.changesNothing(call + " without contracts", Edge::withoutContracts,
                            x -> x.chance(spoon, months, house, part), want);
                        if (want != STATE) {
                            Edge.changesNothing(call + " with contracts", Edge::busy,
                                x -> x.chance(spoon, months, house, part), want);
                        }
                    }
                }
            }
        }
    }

    private static void chanceByTenthsZeroToTen() {
        long[][] want = {{0, 1}, {1, 10}, {1, 5}, {3, 10}, {2, 5}, {1, 2}, {3, 5}, {7, 10}, {4, 5}, {9, 10}, {1, 1}};
        for (int tenths = 0; tenths <= 10; tenths++) {
            ThievesPaid x = Check.city("010");
            x.spoon(1, 5);
            x.tenths(0, tenths);
            due("17: taken by " + tenths + ", above", x.chance(0, 1, 0, 0), want[tenths][0]);
            due("17: taken by " + tenths + ", below", x.chance(0, 1, 0, 1), want[tenths][1]);
            due("17: left by " + tenths + ", above", x.chance(0, 1, 1, 0), want[10 - tenths][0]);
            due("17: left by " + tenths + ", below", x.chance(0, 1, 1, 1), want[10 - tenths][1]);
        }
    }

    private static void chanceInLowestTerms() {
        ThievesPaid x = Check.city("010,010");
        x.spoon(1, 5);
        x.tenths(0, 5);
        x.tenths(1, 5);
        due("17: 1 by 4, above", x.chance(0, 1, 1, 0), 1);
        due("17: 1 by 4, below", x.chance(0, 1, 1, 1), 4);
        due("17: 3 by 4, above", x.chance(0, 1, 0, 0), 3);
        due("17: 15 by 16, above", x.chance(0, 2, 0, 0), 15);
        due("17: 15 by 16, below", x.chance(0, 2, 0, 1), 16);
        due("17: never, above", x.chance(0, 2, 7, 0), 0);
        due("17: never, below", x.chance(0, 2, 7, 1), 1);
        x.tenths(0, 10);
        due("17: surely, above", x.chance(0, 2, 0, 0), 1);
        due("17: surely, below", x.chance(0, 2, 0, 1), 1);
    }

    /** With others there a thief would take those of more worth, or less; they are nothing to a chance. */
    private static void chanceAsTheOnlySpoon() {
        for (String kind : new String[] {"", "s", "b", "m"}) {
            ThievesPaid x = Check.city(kind + "010");
            for (int worth : new int[] {50, 99, 99, 1, 1, 60}) {
                x.spoon(1, worth);
            }
            x.tenths(0, 3);
            for (int spoon = 0; spoon < 6; spoon++) {
                due("17: '" + kind + "', spoon " + spoon + ", above", x.chance(spoon, 1, 0, 0), 3);
                due("17: '" + kind + "', spoon " + spoon + ", below", x.chance(spoon, 1, 0, 1), 10);
            }
        }
    }

    private static void chanceOfLocksOneAndTwo() {
        long[][] above = {{3, 51}, {0, 3}, {0, 0}};
        long[][] below = {{10, 100}, {1, 10}, {1, 1}};
        for (int lock = 0; lock <= 2; lock++) {
            ThievesPaid x = Check.city("010");
            x.spoon(1, 5);
            x.tenths(0, 3);
            x.lock(1, lock);
            for (int months = 1; months <= 2; months++) {
                String call = "17: lock " + lock + ", months " + months;
                due(call + ", above", x.chance(0, months, 0, 0), above[lock][months - 1]);
                due(call + ", below", x.chance(0, months, 0, 1), below[lock][months - 1]);
            }
            due("17: it is as it was", Edge.lockOf(x, 1), lock);
        }
    }

    private static void chanceOfDogsAndKinds() {
        for (String kind : new String[] {"", "s", "b", "h", "m"}) {
            ThievesPaid x = Check.city(kind + "010");
            x.spoon(1, 5);
            x.tenths(0, 3);
            x.lock(1, 9);
            due("17: locked against '" + kind + "'", x.chance(0, 1, 0, 0), kind.equals("m") ? 3 : 0);
            x.lock(1, 0);
            due("17: open to '" + kind + "'", x.chance(0, 1, 0, 0), kind.equals("h") ? 0 : 3);
            x.dog(1, true);
            due("17: a dog against '" + kind + "'", x.chance(0, 2, 0, 0), 0);
            due("17: it stays surely", x.chance(0, 2, 1, 1), 1);
            x.paid(0, false);
            x.dog(1, false);
            due("17: '" + kind + "' not paid", x.chance(0, 2, 0, 0), 0);
        }
    }

    /** Eight thieves in two months: the most that can be below is 10 to the 16. */
    private static void chanceOfSixteenVisits() {
        for (int tenths : new int[] {1, 9}) {
            ThievesPaid x = Check.city("010,010,010,010,010,010,010,010");
            x.spoon(1, 5);
            for (int t = 0; t < 8; t++) {
                x.tenths(t, tenths);
            }
            // 0.9 to the 16 and 0.1 to the 16.
            long stays = tenths == 1 ? 1853020188851841L : 1;
            due("17: stays by " + tenths + ", above", x.chance(0, 2, 1, 0), stays);
            due("17: stays by " + tenths + ", below", x.chance(0, 2, 1, 1), 10000000000000000L);
            due("17: goes by " + tenths + ", above", x.chance(0, 2, 0, 0), 10000000000000000L - stays);
            due("17: goes by " + tenths + ", below", x.chance(0, 2, 0, 1), 10000000000000000L);
        }
    }

    // ---- 18: whom

    private static void whomHouseOfARange() {
        for (int house = 0; house < 8; house++) {
            ThievesPaid x = Check.city("" + house + (house + 1) % 8 + "1");
            x.spoon((house + 1) % 8, 50);
            due("18: house " + house + ", how much", x.whom(house, 1, 0), 49);
            due("18: house " + house + ", which", x.whom(house, 1, 1), 1);
        }
        for (int house : Edge.NO_HOUSES) {
            Edge.changesNothing("18: house " + house, Edge::busy, x -> x.whom(house, 1, 0), WHOM_UNKNOWN);
        }
    }

    private static void whomMonthsZeroToTwelve() {
        for (int months = 1; months <= 12; months++) {
            ThievesPaid x = Check.city("017");
            x.spoon(1, 99);
            due("18: " + months + " months, how much", x.whom(0, months, 0), 99 - 7 * months);
            due("18: " + months + " months, which", x.whom(0, months, 1), 1);
        }
        ThievesPaid own = Check.city("017");
        own.spoon(0, 84);
        due("18: 12 months for 84 are worth nothing", own.whom(0, 12, 1), 0);
        due("18: 11 are", own.whom(0, 11, 1), 1);
        Edge.changesNothing("18: 0 months, how much", () -> withSpoon("017", 0, 84), x -> x.whom(0, 0, 0), 84);
        Edge.changesNothing("18: 0 months, which", () -> withSpoon("017", 1, 84), x -> x.whom(0, 0, 1), 0);
        for (int months : Edge.outOf(0, 12)) {
            Edge.changesNothing("18: months " + months, Edge::busy, x -> x.whom(0, months, 0), WHOM_OUTSIDE);
        }
    }

    private static ThievesPaid withSpoon(String contracts, int house, int worth) {
        ThievesPaid x = Check.city(contracts);
        x.spoon(house, worth);
        return x;
    }

    private static void whomWhatZeroAndOne() {
        for (int what : Edge.outOf(0, 1)) {
            Edge.changesNothing("18: what " + what, Edge::busy, x -> x.whom(0, 1, what), WHOM_OUTSIDE);
        }
        Edge.changesNothing("18: what 0", () -> withSpoon("013", 1, 9), x -> x.whom(0, 2, 0), 3);
        Edge.changesNothing("18: what 1", () -> withSpoon("013", 1, 9), x -> x.whom(0, 2, 1), 1);
    }

    private static void whomRefusalsInOrder() {
        for (int house : new int[] {-1, 0, 8}) {
            for (int months : new int[] {-1, 0, 12, 13}) {
                for (int what : new int[] {-1, 0, 1, 2}) {
                    boolean outside = months < 0 || months > 12 || what < 0 || what > 1;
                    int want = house != 0 ? WHOM_UNKNOWN : outside ? WHOM_OUTSIDE : WHOM_STATE;
                    String call = "18: whom(" + house + ", " + months + ", " + what + ")";
                    Edge.changesNothing(call + " without contracts", Edge::withoutContracts, x -> x.whom(house, months, what), want);
                    if (want != WHOM_STATE) {
                        Edge.changesNothing(call + " with contracts", Edge::busy, x -> x.whom(house, months, what), want);
                    }
                }
            }
        }
    }

    private static void whomOfNobodyAndOfAll() {
        ThievesPaid nobody = withSpoon("121,231", 0, 40);
        due("18: a house that can pay nobody, which", nobody.whom(0, 12, 1), 0);
        due("18: a house that can pay nobody, how much", nobody.whom(0, 12, 0), 40);
        ThievesPaid all = Check.city("011,011,011,011,011,011,011,011");
        for (int s = 0; s < 8; s++) {
            all.spoon(1, 99);
        }
        all.dog(0, true);
        due("18: all eight, which", all.whom(0, 1, 1), 255);
        due("18: all eight, how much", all.whom(0, 1, 0), 784);
        due("18: in two months four are enough", all.whom(0, 2, 1), 15);
        due("18: so much then", all.whom(0, 2, 0), 784);
        due("18: in twelve one takes eight", all.whom(0, 12, 1), 1);
    }

    /** Thief 1 is of another house: paid or not as he is, and never of the set. */
    private static void whomOthersAsTheyAre() {
        ThievesPaid x = withSpoon("010,210", 1, 30);
        due("18: the other one is paid, which", x.whom(2, 1, 1), 0);
        due("18: for house 0", x.whom(0, 1, 1), 1);
        x.paid(0, false);
        due("18: 0 is not paid now, for 2", x.whom(2, 1, 1), 2);
        due("18: so much", x.whom(2, 1, 0), 30);
        due("18: for 0 he may be, though he is not", x.whom(0, 1, 0), 30);
        due("18: house 1 can pay nobody", x.whom(1, 1, 1), 0);
        due("18: the other one takes it from it", x.whom(1, 1, 0), 0);
        due("18: 0 is not paid still", x.about(0, 4), 0);
    }

    /** To pay nobody costs nothing, so what is left is 0 at least. */
    private static void whomIsNeverBelowNobody() {
        ThievesPaid x = Check.city("019,019,019,019,019,019,019,019");
        due("18: no spoons, how much", x.whom(0, 12, 0), 0);
        due("18: no spoons, which", x.whom(0, 12, 1), 0);
        x.spoon(0, 9);
        due("18: a spoon not worth its fees, which", x.whom(0, 1, 1), 0);
        due("18: a spoon not worth its fees, how much", x.whom(0, 1, 0), 0);
    }

    private static void whomOfLikeOnesFewest() {
        // One skilled for 2 takes what two for 1 each take; the dog keeps those who are not paid.
        ThievesPaid x = Check.city("011,011,s012");
        x.spoon(1, 9);
        x.spoon(1, 9);
        x.dog(0, true);
        due("18: fewest, though of more bits", x.whom(0, 1, 1), 4);
        due("18: nobody, if a fee is just what he brings", withSpoon("019", 1, 9).whom(0, 1, 1), 0);
        due("18: one, if he brings 1 more", withSpoon("019", 1, 10).whom(0, 1, 1), 1);
        due("18: nobody, if all are honest", withSpoon("h010,h010", 1, 9).whom(0, 1, 1), 0);
    }

    private static void whomOfLikeOnesLeastBits() {
        ThievesPaid x = withSpoon("010,010,010,010,010,010,010,010", 1, 9);
        x.dog(0, true);
        due("18: of eight like ones the first", x.whom(0, 1, 1), 1);
        x.spoon(1, 9);
        due("18: of like pairs the first", x.whom(0, 1, 1), 3);
        ThievesPaid seven = withSpoon("h010,010,010", 1, 9);
        seven.dog(0, true);
        due("18: the first who takes", seven.whom(0, 1, 1), 2);
        // 0 takes from 1, 1 and 3 from 2: 0 with 1 (3) and 0 with 3 (9) are alike.
        ThievesPaid pairs = Check.city("010,020,h030,020");
        pairs.spoon(1, 5);
        pairs.spoon(2, 5);
        pairs.dog(0, true);
        due("18: 3 is less than 9", pairs.whom(0, 1, 1), 3);
    }

    // ---- 19: still

    private static void stillWithoutContracts() {
        Edge.changesNothing("19: no contracts", Edge::withoutContracts, ThievesPaid::still, STATE);
        Edge.changesNothing("19: a new one", ThievesPaid::new, ThievesPaid::still, STATE);
    }

    private static void stillAtOnce() {
        Edge.changesNothing("19: no spoons", () -> Check.city("010"), ThievesPaid::still, 0);
        Edge.changesNothing("19: nothing to take", () -> withSpoon("010", 0, 5), ThievesPaid::still, 0);
        Edge.changesNothing("19: honest", () -> withSpoon("h010", 1, 5), ThievesPaid::still, 0);
    }

    private static void stillBehindSome() {
        for (int n = 0; n <= 8; n++) {
            ThievesPaid x = Check.city("010");
            for (int s = 0; s < n; s++) {
                x.spoon(1, 5);
            }
            due("19: " + n + " to take", x.still(), n);
            due("19: nothing was taken", x.worth(1), 5 * n);
        }
        Edge.changesNothing("19: the longest that is known", EdgesOfOutlookTest::slow, ThievesPaid::still, 25);
    }

    /** The longest that a long search found: a ring that loses one spoon a round. */
    private static ThievesPaid slow() {
        ThievesPaid x = Check.city("b760,m060,m650,s540,m430,m320,s210,s100");
        int[] worths = {1, 6, 6, 4, 8, 2, 4, 1}, houses = {0, 2, 3, 4, 1, 3, 3, 5}, locks = {9, 3, 2, 1, 2, 9, 9, 6};
        for (int i = 0; i < 8; i++) {
            x.spoon(houses[i], worths[i]);
            x.lock(i, locks[i]);
        }
        return x;
    }

    private static void stillNotInSixty() {
        Edge.changesNothing("19: for ever round", EdgesOfOutlookTest::ring, ThievesPaid::still, NONE);
        ThievesPaid x = ring();
        for (int m = 0; m < 100; m++) {
            x.month();
        }
        due("19: behind a hundred, too", x.still(), NONE);
    }

    /** The first such month counts, though more is taken behind it. */
    private static void stillFirstOfAll() {
        ThievesPaid x = withSpoon("010", 1, 5);
        x.lock(1, 1);
        due("19: locked now", x.still(), 0);
        x.month();
        due("19: open now", x.still(), 1);
        ThievesPaid two = Check.city("010,230");
        two.spoon(1, 5);
        two.spoon(3, 5);
        two.lock(3, 2);
        due("19: one is taken, then none, then one", two.still(), 1);
        two.lock(3, 1);
        due("19: one, one, then none", two.still(), 2);
        two.tenths(0, 0);
        two.tenths(1, 0);
        due("19: all come", two.still(), 2);
    }
}
