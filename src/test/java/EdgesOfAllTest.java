import java.math.BigInteger;

/** The edges that the document names for the image, counts and the digest, and the 512 calls of an object (promises 25 to 28). */
public final class EdgesOfAllTest {
    private static final int NONE = Edge.NONE, OUTSIDE = Edge.OUTSIDE, STATE = Edge.STATE, FULL = Edge.FULL;
    private static final int GREATEST = Edge.GREATEST;
    private static final BigInteger LONGS = BigInteger.TWO.pow(64);

    private static void due(String call, long got, long want) {
        Check.due(call, got, want);
    }

    public static void main(String[] args) {
        imageOfNoneToEight();
        imageIsTheLatest();
        imageChangesNothingElse();
        restoreWithoutAnImage();
        restoreBringsBackEachPart();
        restoreLeavesTheRest();
        restoreAsOftenAsWanted();
        restoreBehindOtherContracts();
        restoreBehindContractsThatWereRefused();
        restoreBehindASpoon();
        restoreBehindSpoonsThatWereRefused();
        restoreOfANewImage();
        countWhatOfARange();
        countOfEmptyAndFull();
        countOfHowOftenRead();
        countOfMonthsAndFeesGoesBack();
        digestOfANewObject();
        digestWraps();
        digestWithAndWithoutContracts();
        digestOfEmptyAndFullPage();
        digestChangesNothing();
        calls512OfMonths();
        calls512OfReadings();
        calls512OfImages();
        calls512OfRefusals();
        Check.finish();
    }

    // ---- 25: image

    private static void imageOfNoneToEight() {
        ThievesPaid x = new ThievesPaid();
        for (int n = 0; n <= 8; n++) {
            due("25: of " + n, x.image(), n);
            due("25: restored " + n, x.restore(), n);
            due("25: spoon behind " + n, x.spoon(n % 8, 1 + n), n < 8 ? n : FULL);
        }
        due("25: of eight, once more", x.image(), 8);
    }

    private static void imageIsTheLatest() {
        ThievesPaid x = new ThievesPaid();
        for (int lock = 1; lock <= 9; lock++) {
            x.lock(0, lock);
            x.image();
        }
        x.lock(0, 0);
        due("25: one is kept", x.restore(), 0);
        due("25: the latest", Edge.lockOf(x, 0), 9);
    }

    private static void imageChangesNothingElse() {
        ThievesPaid x = Edge.busy();
        long before = x.digest();
        due("25: of five", x.image(), 5);
        due("25: all else stays", x.digest(), before);
        due("25: restored at once", x.restore(), 5);
        due("25: nothing to bring back", x.digest(), before);
    }

    // ---- 26: restore

    private static void restoreWithoutAnImage() {
        Edge.changesNothing("26: a new one", ThievesPaid::new, ThievesPaid::restore, STATE);
        Edge.changesNothing("26: with contracts and spoons", EdgesOfAllTest::withoutImage, ThievesPaid::restore, STATE);
    }

    private static ThievesPaid withoutImage() {
        ThievesPaid x = Check.city("014,m123");
        x.spoon(1, 9);
        x.lock(3, 4);
        return x;
    }

    /** Each part alone is changed behind the image, from its least to its greatest value. */
    private static void restoreBringsBackEachPart() {
        for (int i = 0; i < 8; i++) {
            ThievesPaid x = Edge.full();
            x.blank();
            x.lock(i, 9);
            x.dog(i, true);
            x.paid(i, false);
            x.tenths(i, 0);
            x.seen(i, 7);
            int at = x.silver(i, 2);
            long digest = x.digest();
            x.image();
            x.lock(i, 0);
            x.dog(i, false);
            x.paid(i, true);
            x.tenths(i, 10);
            x.seen(i, NONE);
            for (int m = 0; m < 5; m++) {
                x.month();
            }
            due("26: of eight, " + i, x.restore(), 8);
            due("26: lock " + i, Edge.lockOf(x, i), 9);
            due("26: dog " + i, Edge.dogOf(x, i), 1);
            due("26: paid " + i, x.about(i, 4), 0);
            due("26: tenths " + i, x.about(i, 5), 0);
            due("26: seen " + i, x.silver(i, 3), 7);
            due("26: where " + i, x.silver(i, 2), at);
            due("26: months", x.count(2), 1);
            due("26: fees", x.count(3), 28);
            due("26: all of it " + i, x.digest(), digest);
        }
    }

    /** The page and how often contracts were read are not of the image. */
    private static void restoreLeavesTheRest() {
        ThievesPaid x = withoutImage();
        Check.write(x, "01");
        x.image();
        Check.write(x, "5,s2");
        due("26: one spoon", x.restore(), 1);
        due("26: the page goes on", x.count(4), 6);
        due("26: as it is", Check.write(x, "36"), 8);
        due("26: read as often", x.count(6), 1);
        due("26: the page is read", x.contracts(), 2);
        x.blank();
        x.image();
        Check.write(x, "0");
        x.blank();
        x.restore();
        due("26: an empty page stays empty", x.count(4), 0);
    }

    private static void restoreAsOftenAsWanted() {
        ThievesPaid x = withoutImage();
        x.image();
        long digest = x.digest();
        for (int i = 0; i < 5; i++) {
            x.month();
            x.lock(3, i);
            due("26: once more, " + i, x.restore(), 1);
            due("26: as it was, " + i, x.digest(), digest);
        }
    }

    private static ThievesPaid readBehindImage(String first, String then) {
        ThievesPaid x = first.isEmpty() ? new ThievesPaid() : Check.city(first);
        x.spoon(1, 9);
        x.lock(3, 4);
        x.image();
        x.lock(3, 5);
        Check.write(x, then);
        x.contracts();
        return x;
    }

    private static void restoreBehindOtherContracts() {
        Edge.changesNothing("26: other ones", () -> readBehindImage("014", "015"), ThievesPaid::restore, STATE);
        Edge.changesNothing("26: more of them", () -> readBehindImage("014", "014,014"), ThievesPaid::restore, STATE);
        Edge.changesNothing("26: read again", () -> readBehindImage("014", "014"), ThievesPaid::restore, STATE);
        Edge.changesNothing("26: the first ones", () -> readBehindImage("", "014"), ThievesPaid::restore, STATE);
        Edge.changesNothing("26: fewer of them", () -> readBehindImage("014,125", "014"), ThievesPaid::restore, STATE);
    }

    private static void restoreBehindContractsThatWereRefused() {
        for (String none : new String[] {"", "s", "014,", "004"}) {
            ThievesPaid x = readBehindImage("014", none);
            due("26: refused '" + none + "'", x.restore(), 1);
            due("26: the lock", Edge.lockOf(x, 3), 4);
        }
    }

    private static ThievesPaid spoonBehindImage(int had) {
        ThievesPaid x = Check.city("014");
        for (int s = 0; s < had; s++) {
            x.spoon(1, 9);
        }
        x.image();
        x.lock(3, 5);
        x.spoon(2, 7);
        return x;
    }

    private static void restoreBehindASpoon() {
        for (int had = 0; had < 8; had++) {
            int spoons = had;
            Edge.changesNothing("26: a spoon behind " + had, () -> spoonBehindImage(spoons), ThievesPaid::restore, STATE);
        }
    }

    private static void restoreBehindSpoonsThatWereRefused() {
        ThievesPaid full = spoonBehindImage(8);
        due("26: a ninth did not come", full.restore(), 8);
        due("26: the lock is restored", Edge.lockOf(full, 3), 0);
        ThievesPaid x = withoutImage();
        x.image();
        x.spoon(8, 1);
        x.spoon(-1, 1);
        x.spoon(0, 0);
        x.spoon(0, 100);
        due("26: none came", x.restore(), 1);
    }

    private static void restoreOfANewImage() {
        ThievesPaid x = spoonBehindImage(3);
        due("26: it came", x.restore(), STATE);
        due("26: a new image", x.image(), 4);
        x.lock(3, 1);
        due("26: is restored", x.restore(), 4);
        due("26: the lock", Edge.lockOf(x, 3), 5);
        Check.write(x, "015");
        x.contracts();
        due("26: contracts came", x.restore(), STATE);
        x.image();
        due("26: and an image of them", x.restore(), 4);
    }

    // ---- 27: count

    private static void countWhatOfARange() {
        // In the first month all six are paid, in the second all but thief 1; each spoon is away then.
        int[] want = {6, 5, 2, 38 + 33, 9, 5, 1};
        for (int what = 0; what < want.length; what++) {
            int asked = what;
            Edge.changesNothing("27: what " + what, Edge::busy, x -> x.count(asked), want[what]);
        }
        for (int what : Edge.outOf(0, 6)) {
            Edge.changesNothing("27: what " + what, Edge::busy, x -> x.count(what), OUTSIDE);
            Edge.changesNothing("27: of a new one, what " + what, ThievesPaid::new, x -> x.count(what), OUTSIDE);
        }
    }

    private static void countOfEmptyAndFull() {
        ThievesPaid x = Check.city("019,019,019,019,019,019,019,019");
        due("27: eight thieves", x.count(0), 8);
        for (int s = 0; s < 8; s++) {
            x.spoon(1, 9);
        }
        due("27: eight spoons", x.count(1), 8);
        due("27: none is away", x.count(5), 0);
        x.month();
        due("27: all are away", x.count(5), 8);
        due("27: fees of all", x.count(3), 72);
        Check.write(x, "0123456789012345678901234567890123456789");
        due("27: a full page", x.count(4), 40);
        x.blank();
        due("27: an empty page", x.count(4), 0);
    }

    private static void countOfHowOftenRead() {
        ThievesPaid x = new ThievesPaid();
        for (int n = 0; n < 5; n++) {
            due("27: read " + n, x.count(6), n);
            x.contracts();
            due("27: an empty page is not read", x.count(6), n);
            Check.write(x, "012");
            x.contracts();
        }
    }

    private static void countOfMonthsAndFeesGoesBack() {
        ThievesPaid x = Check.city("013");
        x.month();
        x.image();
        x.month();
        x.month();
        due("27: months", x.count(2), 3);
        due("27: fees", x.count(3), 9);
        x.restore();
        due("27: months of the image", x.count(2), 1);
        due("27: fees of the image", x.count(3), 3);
    }

    // ---- 28: digest

    /** What h becomes by these numbers, reckoned without longs and made one in the end. */
    private static long wrapped(int... numbers) {
        BigInteger h = BigInteger.valueOf(673);
        for (int number : numbers) {
            h = h.multiply(BigInteger.valueOf(31)).add(BigInteger.valueOf(number));
        }
        return h.mod(LONGS).longValue();
    }

    private static void digestOfANewObject() {
        due("28: 673 and 32 zeros", new ThievesPaid().digest(), wrapped(new int[32]));
        Check.holds("28: beyond a long", BigInteger.valueOf(31).pow(32).compareTo(LONGS) > 0);
    }

    private static void digestWraps() {
        ThievesPaid x = Check.city("s109");
        x.spoon(0, 99);
        x.lock(7, 9);
        x.dog(7, true);
        x.seen(0, 0);
        Check.write(x, "~");
        long want = wrapped(
            1, 1, 0, 9, 1, 10,
            0, 0, 99, 0, 0, 0, 0, 0, 0, 0, 0, 0, 0, 0, 0, 0, 0, 0, 0, 0, 0, 9, 1, 0,
            99, 0, 0, 0,
            0,
            1, 1,
            // In three months 1 wins 99 for 27; the others win nothing.
            0, 0, 72, 1, 0, 0, 0, 0, 0, 0, 0, 0, 0, 0, 0, 0,
            126,
            1, 1, 0, 0, 1, 0, 1);
        due("28: by hand", x.digest(), want);
        x.seen(0, NONE);
        long none = wrapped(
            1, 1, 0, 9, 1, 10,
            0, 0, 99, 0, 0, 0, 0, 0, 0, 0, 0, 0, 0, 0, 0, 0, 0, 0, 0, 0, 0, 9, 1, 0,
            99, 0, 0, -1,
            0,
            1, 257,
            0, 0, 72, 1, 0, 0, 0, 0, 0, 0, 0, 0, 0, 0, 0, 0,
            126,
            1, 1, 0, 0, 1, 0, 1);
        due("28: with a number below 0", x.digest(), none);
    }

    private static void digestWithAndWithoutContracts() {
        ThievesPaid x = new ThievesPaid();
        x.spoon(0, 99);
        due("28: no contracts, so no STILL, WHO and WHOM", x.digest(), wrapped(
            0, 0, 99, 0, 0, 0, 0, 0, 0, 0, 0, 0, 0, 0, 0, 0, 0, 0, 0, 0, 0, 0, 0, 0,
            99, 0, 0, -1, 0,
            0, 1, 0, 0, 0, 0, 0));
        Check.write(x, "010");
        x.contracts();
        due("28: with contracts", x.digest(), wrapped(
            0, 0, 1, 0, 1, 10,
            0, 0, 99, 0, 0, 0, 0, 0, 0, 0, 0, 0, 0, 0, 0, 0, 0, 0, 0, 0, 0, 0, 0, 0,
            99, 0, 0, -1, 0,
            // Not paid, he would bring it from 0 to 1.
            0, 257, 99, 1, 0, 0, 0, 0, 0, 0, 0, 0, 0, 0, 0, 0, 0, 0,
            1, 1, 0, 0, 0, 0, 1));
    }

    private static void digestOfEmptyAndFullPage() {
        ThievesPaid x = new ThievesPaid();
        int[] numbers = new int[72];
        for (int i = 0; i < 40; i++) {
            int code = 1 + 3 * i;
            x.letters(code);
            numbers[25 + i] = code;
        }
        numbers[69] = 40;
        due("28: forty letters", x.digest(), wrapped(numbers));
        x.blank();
        due("28: none", x.digest(), wrapped(new int[32]));
    }

    private static void digestChangesNothing() {
        long busy = Edge.busy().digest(), full = Edge.full().digest();
        Edge.changesNothing("28: of a busy one", Edge::busy, ThievesPaid::digest, busy);
        Edge.changesNothing("28: of a full one", Edge::full, ThievesPaid::digest, full);
        Edge.changesNothing("28: of a new one", ThievesPaid::new, ThievesPaid::digest, wrapped(new int[32]));
    }

    // ---- an object is used for at most 512 calls

    private static void calls512OfMonths() {
        ThievesPaid x = Check.city("019,109,019,109,019,109,019,109");
        x.spoon(1, 5);
        // Letters take five calls (the first tells none), contracts and the spoon one each: 505 are left.
        for (int call = 0; call < 503; call++) {
            due("512: month", x.month(), 8);
        }
        due("512: months", x.count(2), 503);
        due("512: fees", x.count(3), 503 * 72);
    }

    private static void calls512OfReadings() {
        ThievesPaid x = new ThievesPaid();
        for (int n = 1; n <= 255; n++) {
            x.letters(Check.codes("m019"));
            due("512: read " + n, x.contracts(), 1);
        }
        due("512: how often", x.count(6), 255);
        due("512: the last call", x.about(0, 0), 4);
    }

    private static void calls512OfImages() {
        ThievesPaid x = Check.city("m019");
        x.spoon(1, 5);
        for (int n = 0; n < 127; n++) {
            due("512: image", x.image(), 1);
            due("512: month", x.month(), 1);
            due("512: restore", x.restore(), 1);
            due("512: at home", x.count(5), 0);
        }
    }

    private static void calls512OfRefusals() {
        ThievesPaid x = new ThievesPaid();
        long before = x.digest();
        for (int n = 0; n < 85; n++) {
            due("512: letters", x.letters(-1), OUTSIDE);
            due("512: contracts", x.contracts(), STATE);
            due("512: spoon", x.spoon(0, GREATEST), OUTSIDE);
            due("512: month", x.month(), STATE);
            due("512: restore", x.restore(), STATE);
            due("512: months", x.months(0, 0, 0), OUTSIDE);
        }
        due("512: as at first", x.digest(), before);
    }
}
