import java.util.ArrayList;
import java.util.List;
import java.util.function.Supplier;
import java.util.function.ToLongFunction;

/** What the tests of edges share: cities to begin from, numbers beside a range, and that a call changes nothing. */
final class Edge {
    // As the document writes them, so that a wrong constant of the class is seen.
    static final int NONE = -1, UNKNOWN = -101, OUTSIDE = -102, STATE = -103, FULL = -104;
    static final int LEAST = Integer.MIN_VALUE, GREATEST = Integer.MAX_VALUE;
    static final int[] NO_HOUSES = {-1, 8, -2, 9, 256, LEAST, GREATEST};
    static final String EIGHT = "s010,b121,h232,m343,s454,b565,h676,m707";

    private Edge() {
    }

    /** Numbers that are not from low to high: first the two beside it. */
    static int[] outOf(int low, int high) {
        return new int[] {low - 1, high + 1, low - 2, high + 2, LEAST, GREATEST};
    }

    /** A city in which each part has a value of its own, with an image of other values, and contracts on the page. */
    static ThievesPaid busy() {
        ThievesPaid x = Check.city("014,s125,b236,h347,m458,018");
        int[][] spoons = {{1, 30}, {2, 20}, {2, 10}, {3, 40}, {5, 50}};
        for (int[] s : spoons) {
            x.spoon(s[0], s[1]);
        }
        x.month();
        x.paid(1, false);
        x.tenths(0, 4);
        x.lock(6, 5);
        x.dog(7, true);
        x.seen(0, 0);
        x.image();
        x.month();
        x.tenths(2, 7);
        x.paid(4, false);
        x.lock(2, 3);
        x.dog(5, true);
        x.seen(1, 2);
        Check.write(x, "s017,h239");
        return x;
    }

    /** Spoons, a lock, a dog, an image and letters on the page, but no contracts. */
    static ThievesPaid withoutContracts() {
        ThievesPaid x = new ThievesPaid();
        x.spoon(1, 30);
        x.spoon(2, 20);
        x.lock(6, 5);
        x.seen(0, 0);
        x.image();
        x.dog(7, true);
        x.seen(1, 2);
        Check.write(x, "s017,h239");
        return x;
    }

    /** Eight thieves, eight spoons, forty letters on the page, an image. */
    static ThievesPaid full() {
        ThievesPaid x = Check.city(EIGHT);
        for (int s = 0; s < 8; s++) {
            x.spoon(s, 99 - s);
        }
        x.image();
        x.month();
        Check.write(x, EIGHT + ",");
        return x;
    }

    /** A busy city whose page has just this text. */
    static ThievesPaid withPage(String text) {
        ThievesPaid x = busy();
        x.blank();
        Check.write(x, text);
        return x;
    }

    /** Of two cities of like history one gets the call: behind it both must tell the same of all, and of the image. */
    static void changesNothing(String what, Supplier<ThievesPaid> make, ToLongFunction<ThievesPaid> call, long want) {
        ThievesPaid asked = make.get();
        ThievesPaid twin = make.get();
        Check.due(what, call.applyAsLong(asked), want);
        Check.holds(what + ": nothing has changed", tellsAll(asked).equals(tellsAll(twin)));
    }

    /** Some 400 calls, so that an object stays within its 512. */
    private static List<Long> tellsAll(ThievesPaid x) {
        List<Long> told = new ArrayList<>();
        tellNow(x, told);
        told.add((long) x.restore());
        tellNow(x, told);
        told.add((long) x.contracts());
        tellNow(x, told);
        return told;
    }

    private static void tellNow(ThievesPaid x, List<Long> told) {
        told.add(x.digest());
        told.add((long) x.fault());
        for (int i = 0; i < 8; i++) {
            for (int what = 0; what <= 5; what++) {
                told.add((long) x.about(i, what));
            }
            for (int what = 0; what <= 3; what++) {
                told.add((long) x.silver(i, what));
            }
            told.add((long) lockOf(x, i));
            told.add((long) dogOf(x, i));
            told.add((long) x.worth(i));
        }
        for (int what = 0; what <= 6; what++) {
            told.add((long) x.count(what));
        }
    }

    static int lockOf(ThievesPaid x, int house) {
        int lock = x.lock(house, 0);
        x.lock(house, lock);
        return lock;
    }

    static int dogOf(ThievesPaid x, int house) {
        int dog = x.dog(house, false);
        x.dog(house, dog == 1);
        return dog;
    }
}
