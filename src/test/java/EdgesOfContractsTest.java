/** The edges that the document names for a new object, the page, contracts and thieves (promises 1 to 9). */
public final class EdgesOfContractsTest {
    private static final int NONE = Edge.NONE, UNKNOWN = Edge.UNKNOWN, OUTSIDE = Edge.OUTSIDE;
    private static final int STATE = Edge.STATE, FULL = Edge.FULL;
    private static final int LEAST = Edge.LEAST, GREATEST = Edge.GREATEST;
    private static final String EIGHT = Edge.EIGHT;
    private static final String EIGHT_PLAIN = "010,121,232,343,454,565,676,707";
    private static final String HOUSES = "01234567", KINDS = "sbhm", DIGITS = "0123456789";

    private static void due(String call, long got, long want) {
        Check.due(call, got, want);
    }

    public static void main(String[] args) {
        newObjectHasNoThief();
        newObjectHasNoSpoon();
        newObjectRefusesWhatNeedsContracts();
        objectsDoNotShareAnything();
        lettersUpToEight();
        lettersEndAtTheFirstZero();
        lettersLowestByteFirst();
        lettersAbove126();
        lettersBehindAZero();
        lettersAbove40();
        lettersFullComesBehindOutside();
        blankOfEmptyAndFullPage();
        faultOfEmptyPage();
        faultByEachLetter();
        faultIsTheFirst();
        faultOfFullPage();
        faultChangesNothing();
        contractsOneToEight();
        contractsNone();
        contractsOfEachHouseAndFee();
        contractsRefusedKeepPageAndThieves();
        contractsOthersAreGone();
        contractsBeginPaidWithTenTenths();
        aboutThiefOfARange();
        aboutWhatOfARange();
        asThiefOfARange();
        asKindOfARange();
        asMasterIsSkilledToo();
        paidThiefOfARange();
        tenthsThiefOfARange();
        tenthsZeroToTen();
        thievesEndWhereTheNewContractsEnd();
        Check.finish();
    }

    // ---- 1: a new object

    private static void newObjectHasNoThief() {
        for (int thief : new int[] {-1, 0, 1, 7, 8, LEAST, GREATEST}) {
            Edge.changesNothing("1: about " + thief, ThievesPaid::new, x -> x.about(thief, 0), UNKNOWN);
            Edge.changesNothing("1: as " + thief, ThievesPaid::new, x -> x.as(thief, 0), UNKNOWN);
            Edge.changesNothing("1: paid " + thief, ThievesPaid::new, x -> x.paid(thief, false), UNKNOWN);
            Edge.changesNothing("1: tenths " + thief, ThievesPaid::new, x -> x.tenths(thief, 5), UNKNOWN);
        }
        due("1: no thieves", new ThievesPaid().count(0), 0);
    }

    private static void newObjectHasNoSpoon() {
        for (int spoon : new int[] {-1, 0, 1, 7, 8, LEAST, GREATEST}) {
            Edge.changesNothing("1: silver " + spoon, ThievesPaid::new, x -> x.silver(spoon, 0), UNKNOWN);
            Edge.changesNothing("1: seen " + spoon, ThievesPaid::new, x -> x.seen(spoon, 0), UNKNOWN);
            Edge.changesNothing("1: where " + spoon, ThievesPaid::new, x -> x.where(spoon, 0), UNKNOWN);
            Edge.changesNothing("1: chance " + spoon, ThievesPaid::new, x -> x.chance(spoon, 1, 0, 0), UNKNOWN);
        }
        due("1: no spoons", new ThievesPaid().count(1), 0);
    }

    private static void newObjectRefusesWhatNeedsContracts() {
        Edge.changesNothing("1: contracts", ThievesPaid::new, ThievesPaid::contracts, STATE);
        Edge.changesNothing("1: month", ThievesPaid::new, ThievesPaid::month, STATE);
        Edge.changesNothing("1: whom", ThievesPaid::new, x -> x.whom(0, 0, 0), -100103);
        Edge.changesNothing("1: still", ThievesPaid::new, ThievesPaid::still, STATE);
        Edge.changesNothing("1: who", ThievesPaid::new, ThievesPaid::who, STATE);
        Edge.changesNothing("1: months", ThievesPaid::new, x -> x.months(1, 0, 0), STATE);
        Edge.changesNothing("1: restore", ThievesPaid::new, ThievesPaid::restore, STATE);
    }

    private static void objectsDoNotShareAnything() {
        ThievesPaid x = new ThievesPaid();
        long before = x.digest();
        Edge.full().image();
        due("1: another object's calls", x.digest(), before);
        due("1: a new one behind them", new ThievesPaid().digest(), before);
        due("1: another object's image", x.restore(), STATE);
    }

    // ---- 2: letters

    private static void lettersUpToEight() {
        for (int n = 0; n <= 8; n++) {
            ThievesPaid x = new ThievesPaid();
            due("2: " + n + " letters", x.letters(Check.codes("abcdefgh".substring(0, n))), n);
            due("2: as many more", x.letters(Check.codes("abcdefgh".substring(0, n))), 2 * n);
            due("2: the page has them", x.count(4), 2 * n);
        }
    }

    private static void lettersEndAtTheFirstZero() {
        Edge.changesNothing("2: no letter in 0", Edge::busy, x -> x.letters(0), 9);
        ThievesPaid x = new ThievesPaid();
        due("2: three, then zeros", x.letters(0x0000000000353130L), 3);
        due("2: no zero came with them", x.contracts(), 1);
    }

    private static void lettersLowestByteFirst() {
        ThievesPaid x = new ThievesPaid();
        due("2: m019,b23", x.letters(0x3332622c3931306dL), 8);
        due("2: 4", x.letters(0x34), 9);
        due("2: are two contracts", x.contracts(), 2);
        due("2: kind of the first", x.about(0, 0), 4);
        due("2: payer of the first", x.about(0, 1), 0);
        due("2: robbed of the first", x.about(0, 2), 1);
        due("2: fee of the first", x.about(0, 3), 9);
        due("2: kind of the second", x.about(1, 0), 2);
        due("2: payer of the second", x.about(1, 1), 2);
        due("2: robbed of the second", x.about(1, 2), 3);
        due("2: fee of the second", x.about(1, 3), 4);
    }

    private static void lettersAbove126() {
        for (int place = 0; place < 8; place++) {
            long ahead = Check.codes("AAAAAAAA".substring(0, place));
            for (int code : new int[] {1, 126}) {
                due("2: code " + code + " at " + place, new ThievesPaid().letters(ahead | (long) code << 8 * place), place + 1);
            }
            for (int code : new int[] {127, 128, 129, 254, 255}) {
                long w = ahead | (long) code << 8 * place;
                Edge.changesNothing("2: code " + code + " at " + place, Edge::busy, x -> x.letters(w), OUTSIDE);
            }
        }
        ThievesPaid all = new ThievesPaid();
        for (int code = 1; code <= 126; code++) {
            all.blank();
            due("2: code " + code, all.letters(code), 1);
        }
    }

    private static void lettersBehindAZero() {
        for (int zero = 0; zero < 7; zero++) {
            long ahead = Check.codes("AAAAAAAA".substring(0, zero));
            due("2: a zero at " + zero, new ThievesPaid().letters(ahead), zero);
            for (int place = zero + 1; place < 8; place++) {
                for (long code : new long[] {1, 'A', 126}) {
                    long w = ahead | code << 8 * place;
                    Edge.changesNothing("2: a zero at " + zero + ", " + code + " at " + place,
                        Edge::busy, x -> x.letters(w), OUTSIDE);
                }
            }
        }
    }

    private static void lettersAbove40() {
        String forty = "0123456701234567012345670123456701234567";
        for (int had = 32; had <= 40; had++) {
            String text = forty.substring(0, had);
            for (int more = 0; more <= 8; more++) {
                long w = Check.codes("abcdefgh".substring(0, more));
                if (had + more <= 40) {
                    due("2: " + more + " behind " + had, Edge.withPage(text).letters(w), had + more);
                } else {
                    Edge.changesNothing("2: " + more + " behind " + had, () -> Edge.withPage(text), x -> x.letters(w), FULL);
                }
            }
        }
        ThievesPaid x = Edge.withPage(forty);
        x.letters('a');
        due("2: forty stay", x.blank(), 40);
        due("2: behind blank there is room", x.letters('a'), 1);
    }

    private static void lettersFullComesBehindOutside() {
        Edge.changesNothing("2: full", Edge::full, x -> x.letters('A'), FULL);
        Edge.changesNothing("2: full, and above 126", Edge::full, x -> x.letters(127), OUTSIDE);
        Edge.changesNothing("2: full, and behind a 0", Edge::full, x -> x.letters(0x4100), OUTSIDE);
        Edge.changesNothing("2: full, and no letter", Edge::full, x -> x.letters(0), 40);
        Edge.changesNothing("2: all ones", Edge::full, x -> x.letters(-1L), OUTSIDE);
        Edge.changesNothing("2: least long", Edge::full, x -> x.letters(Long.MIN_VALUE), OUTSIDE);
        Edge.changesNothing("2: greatest long", Edge::full, x -> x.letters(Long.MAX_VALUE), OUTSIDE);
    }

    // ---- 3: blank

    private static void blankOfEmptyAndFullPage() {
        Edge.changesNothing("3: an empty page", () -> Edge.withPage(""), ThievesPaid::blank, 0);
        for (int n : new int[] {1, 8, 9, 39, 40}) {
            ThievesPaid x = Edge.withPage((EIGHT + "!").substring(0, n));
            due("3: " + n, x.blank(), n);
            due("3: then none", x.count(4), 0);
            due("3: fault of none", x.fault(), 0);
            due("3: once more", x.blank(), 0);
            due("3: the thieves stay", x.count(0), 6);
        }
    }

    // ---- 4: fault

    private static void faultOfEmptyPage() {
        Edge.changesNothing("4: an empty page", () -> Edge.withPage(""), ThievesPaid::fault, 0);
    }

    /** Behind each sort of beginning just these letters go on; each of the 126 is tried. */
    private static void faultByEachLetter() {
        letterBehind("", KINDS + HOUSES);
        for (String kind : new String[] {"s", "b", "h", "m"}) {
            letterBehind(kind, HOUSES);
            letterBehind(kind + "0", "1234567");
            letterBehind(kind + "70", DIGITS);
            letterBehind(kind + "709", ",");
        }
        for (int payer = 0; payer < 8; payer++) {
            letterBehind("" + payer, HOUSES.replace("" + payer, ""));
        }
        letterBehind("01", DIGITS);
        letterBehind("76", DIGITS);
        letterBehind("010", ",");
        letterBehind("769", ",");
        letterBehind("769,", KINDS + HOUSES);
        letterBehind("769,h", HOUSES);
        letterBehind("769,6", "0123457");
        letterBehind("769,67", DIGITS);
        letterBehind("769,670", ",");
        letterBehind(EIGHT_PLAIN.substring(0, 27), ",");
        letterBehind(EIGHT_PLAIN.substring(0, 28), KINDS + HOUSES);
        letterBehind(EIGHT.substring(0, 34), ",");
        letterBehind(EIGHT.substring(0, 35), KINDS + HOUSES);
        letterBehind(EIGHT.substring(0, 38), DIGITS);
        letterBehind(EIGHT_PLAIN, "");
        letterBehind(EIGHT, "");
    }

    private static void letterBehind(String text, String taken) {
        for (char code = 1; code <= 126; code++) {
            ThievesPaid x = new ThievesPaid();
            Check.write(x, text);
            x.letters(code);
            due("4: code " + (int) code + " behind '" + text + "'", x.fault(), text.length() + (taken.indexOf(code) < 0 ? 0 : 1));
        }
    }

    private static void faultIsTheFirst() {
        String[] texts = {"!!", "s!!", "0!00", "00!!", "01!!", "012!!", "012,!!", "012,s!!", "012,33,44", "0128,9", ",,"};
        int[] places = {0, 1, 1, 1, 2, 3, 4, 5, 5, 3, 0};
        for (int i = 0; i < texts.length; i++) {
            due("4: first of '" + texts[i] + "'", Edge.withPage(texts[i]).fault(), places[i]);
        }
    }

    private static void faultOfFullPage() {
        due("4: 39 letters without one", Edge.withPage(EIGHT).fault(), 39);
        due("4: the 40th", Edge.withPage(EIGHT + ",").fault(), 39);
        due("4: the first of 40", Edge.withPage("!" + EIGHT).fault(), 0);
        due("4: a ninth, behind 31", Edge.withPage(EIGHT_PLAIN + ",012").fault(), 31);
        due("4: behind the first of 40", Edge.withPage("s" + EIGHT).fault(), 1);
    }

    private static void faultChangesNothing() {
        Edge.changesNothing("4: with contracts on the page", Edge::busy, ThievesPaid::fault, 9);
        Edge.changesNothing("4: with a fault", Edge::full, ThievesPaid::fault, 39);
    }

    // ---- 5: contracts

    private static void contractsOneToEight() {
        for (int n = 1; n <= 8; n++) {
            ThievesPaid plain = Edge.withPage(EIGHT_PLAIN.substring(0, 4 * n - 1));
            due("5: " + n + " without kinds", plain.contracts(), n);
            due("5: thieves", plain.count(0), n);
            ThievesPaid kinds = Edge.withPage(EIGHT.substring(0, 5 * n - 1));
            due("5: " + n + " with kinds", kinds.contracts(), n);
            due("5: letters", kinds.count(4), 0);
            due("5: the last one", kinds.about(n - 1, 3), n - 1);
            due("5: behind it", kinds.about(n, 3), UNKNOWN);
        }
        refusedContracts("", "none");
        refusedContracts(EIGHT_PLAIN + ",012", "nine");
        refusedContracts(EIGHT + ",", "eight and a comma");
        due("5: like ones", Edge.withPage("012,012").contracts(), 2);
    }

    private static void refusedContracts(String text, String what) {
        Edge.changesNothing("5: " + what + ": '" + text + "'", () -> Edge.withPage(text), ThievesPaid::contracts, STATE);
    }

    /** Of all beginnings of a text only those that end behind a fee are contracts. */
    private static void contractsNone() {
        String text = "s012,345";
        for (int n = 0; n <= text.length(); n++) {
            String part = text.substring(0, n);
            if (n == 4 || n == 8) {
                due("5: " + part, Edge.withPage(part).contracts(), n / 4);
            } else {
                refusedContracts(part, "a part");
            }
        }
        String[] none = {"002", "772", "082", "802", "082", "s01s", "0,1", "01,2", "012 ", " 012", ",012", "012,,345",
            "S012", "t012", "ss012", "0123", "012;345", "01:", "01/", "/12", "812", "0/2", "012,345,"};
        for (String each : none) {
            refusedContracts(each, "none such");
        }
    }

    private static void contractsOfEachHouseAndFee() {
        for (int payer = 0; payer < 8; payer++) {
            for (int robbed = 0; robbed < 8; robbed++) {
                ThievesPaid x = new ThievesPaid();
                int fee = (payer + robbed) % 10;
                Check.write(x, "" + payer + robbed + fee);
                due("5: " + payer + " and " + robbed, x.contracts(), payer == robbed ? STATE : 1);
                due("5: payer", x.about(0, 1), payer == robbed ? UNKNOWN : payer);
                due("5: robbed", x.about(0, 2), payer == robbed ? UNKNOWN : robbed);
            }
        }
        for (int fee = 0; fee <= 9; fee++) {
            due("5: fee " + fee, Check.city("01" + fee).about(0, 3), fee);
        }
    }

    private static void contractsRefusedKeepPageAndThieves() {
        ThievesPaid x = Edge.withPage("012,");
        due("5: refused", x.contracts(), STATE);
        due("5: the page stays", x.count(4), 4);
        due("5: the thieves stay", x.count(0), 6);
        due("5: tenths stay", x.about(2, 5), 7);
        due("5: who is paid stays", x.about(4, 4), 0);
        due("5: read as often as ahead of it", x.count(6), 1);
        due("5: it can be written on", Check.write(x, "345"), 7);
        due("5: and read", x.contracts(), 2);
        due("5: read once more", x.count(6), 2);
    }

    private static void contractsOthersAreGone() {
        ThievesPaid x = Edge.full();
        x.blank();
        Check.write(x, "b765");
        due("5: one for eight", x.contracts(), 1);
        due("5: its kind", x.about(0, 0), 2);
        due("5: the second is gone", x.about(1, 0), UNKNOWN);
        due("5: the last is gone", x.about(7, 0), UNKNOWN);
        due("5: spoons stay", x.count(1), 8);
        due("5: months stay", x.count(2), 1);
        due("5: fees stay", x.count(3), 28);
        Check.write(x, EIGHT);
        due("5: eight for one", x.contracts(), 8);
        due("5: the last is there", x.about(7, 0), 4);
    }

    private static void contractsBeginPaidWithTenTenths() {
        ThievesPaid x = Edge.full();
        for (int t = 0; t < 8; t++) {
            x.paid(t, false);
            x.tenths(t, 0);
        }
        x.blank();
        Check.write(x, EIGHT);
        x.contracts();
        for (int t = 0; t < 8; t++) {
            due("5: paid at first, " + t, x.about(t, 4), 1);
            due("5: ten tenths at first, " + t, x.about(t, 5), 10);
        }
    }

    // ---- 6: about

    private static void aboutThiefOfARange() {
        due("6: the first", Edge.full().about(0, 3), 0);
        due("6: the last of eight", Edge.full().about(7, 3), 7);
        due("6: the last of six", Edge.busy().about(5, 3), 8);
        for (int thief : Edge.outOf(0, 5)) {
            Edge.changesNothing("6: of six " + thief, Edge::busy, x -> x.about(thief, 0), UNKNOWN);
            Edge.changesNothing("6: of six " + thief + ", what", Edge::busy, x -> x.about(thief, 6), UNKNOWN);
        }
        for (int thief : Edge.outOf(0, 7)) {
            Edge.changesNothing("6: of eight " + thief, Edge::full, x -> x.about(thief, 5), UNKNOWN);
        }
    }

    private static void aboutWhatOfARange() {
        Edge.changesNothing("6: what 0", Edge::busy, x -> x.about(4, 0), 4);
        Edge.changesNothing("6: what 5", Edge::busy, x -> x.about(0, 5), 4);
        for (int what : Edge.outOf(0, 5)) {
            Edge.changesNothing("6: what " + what, Edge::busy, x -> x.about(0, what), OUTSIDE);
        }
    }

    // ---- 7: as

    private static void asThiefOfARange() {
        due("7: the first", Edge.full().as(0, 0), 0);
        due("7: the last of eight", Edge.full().as(7, 0), 7);
        for (int thief : Edge.outOf(0, 7)) {
            Edge.changesNothing("7: thief " + thief, Edge::full, x -> x.as(thief, 0), UNKNOWN);
            Edge.changesNothing("7: thief " + thief + ", kind", Edge::full, x -> x.as(thief, 5), UNKNOWN);
        }
        Edge.changesNothing("7: of six the seventh", Edge::busy, x -> x.as(6, 0), UNKNOWN);
        due("7: of six the sixth", Edge.busy().as(5, 0), 5);
    }

    private static void asKindOfARange() {
        Edge.changesNothing("7: kind 0", Edge::busy, x -> x.as(5, 0), 5);
        Edge.changesNothing("7: kind 4", Edge::busy, x -> x.as(4, 4), 4);
        for (int kind : Edge.outOf(0, 4)) {
            Edge.changesNothing("7: kind " + kind, Edge::busy, x -> x.as(4, kind), OUTSIDE);
        }
    }

    private static void asMasterIsSkilledToo() {
        Edge.changesNothing("7: a master as skilled", Edge::busy, x -> x.as(4, 1), 4);
        Edge.changesNothing("7: a skilled one as master", Edge::busy, x -> x.as(1, 4), NONE);
        Edge.changesNothing("7: a thief as skilled", Edge::busy, x -> x.as(0, 1), NONE);
        Edge.changesNothing("7: a master as a brother", Edge::busy, x -> x.as(4, 2), NONE);
        Edge.changesNothing("7: a master as honest", Edge::busy, x -> x.as(4, 3), NONE);
        Edge.changesNothing("7: an honest one as a thief", Edge::busy, x -> x.as(3, 0), 3);
        Edge.changesNothing("7: a brother as skilled", Edge::busy, x -> x.as(2, 1), NONE);
    }

    // ---- 8: paid

    private static void paidThiefOfARange() {
        due("8: the first", Edge.full().paid(0, false), 1);
        due("8: the last of eight", Edge.full().paid(7, false), 1);
        due("8: the last of six", Edge.busy().paid(5, true), 1);
        for (int thief : Edge.outOf(0, 5)) {
            Edge.changesNothing("8: of six " + thief, Edge::busy, x -> x.paid(thief, false), UNKNOWN);
        }
        for (int thief : Edge.outOf(0, 7)) {
            Edge.changesNothing("8: of eight " + thief, Edge::full, x -> x.paid(thief, false), UNKNOWN);
        }
        Edge.changesNothing("8: paid, as he was", Edge::busy, x -> x.paid(0, true), 1);
        Edge.changesNothing("8: not paid, as he was", Edge::busy, x -> x.paid(1, false), 0);
    }

    // ---- 9: tenths

    private static void tenthsThiefOfARange() {
        due("9: the first", Edge.full().tenths(0, 3), 10);
        due("9: the last of eight", Edge.full().tenths(7, 3), 10);
        for (int thief : Edge.outOf(0, 7)) {
            Edge.changesNothing("9: thief " + thief, Edge::full, x -> x.tenths(thief, 3), UNKNOWN);
            Edge.changesNothing("9: thief " + thief + ", v", Edge::full, x -> x.tenths(thief, 11), UNKNOWN);
        }
        Edge.changesNothing("9: of six the seventh", Edge::busy, x -> x.tenths(6, 3), UNKNOWN);
    }

    private static void tenthsZeroToTen() {
        ThievesPaid x = Edge.busy();
        int was = 4;
        for (int v = 0; v <= 10; v++) {
            due("9: to " + v, x.tenths(0, v), was);
            due("9: is " + v, x.about(0, 5), v);
            was = v;
        }
        for (int v : Edge.outOf(0, 10)) {
            Edge.changesNothing("9: to " + v, Edge::busy, y -> y.tenths(0, v), OUTSIDE);
        }
    }

    // ---- 6 to 9, behind new contracts

    private static void thievesEndWhereTheNewContractsEnd() {
        for (int thief : new int[] {2, 5, 6}) {
            Edge.changesNothing("6: gone " + thief, EdgesOfContractsTest::readAgain, x -> x.about(thief, 0), UNKNOWN);
            Edge.changesNothing("7: gone " + thief, EdgesOfContractsTest::readAgain, x -> x.as(thief, 0), UNKNOWN);
            Edge.changesNothing("8: gone " + thief, EdgesOfContractsTest::readAgain, x -> x.paid(thief, false), UNKNOWN);
            Edge.changesNothing("9: gone " + thief, EdgesOfContractsTest::readAgain, x -> x.tenths(thief, 1), UNKNOWN);
        }
        due("6: the last one", readAgain().about(1, 0), 3);
        due("7: the last one", readAgain().as(1, 3), 1);
        due("8: the last one", readAgain().paid(1, false), 1);
        due("9: the last one", readAgain().tenths(1, 1), 10);
    }

    private static ThievesPaid readAgain() {
        ThievesPaid x = Edge.busy();
        x.contracts();
        return x;
    }
}
