/** Each promise by answers worked out by hand: ordinary inputs, the edges that the document names, wrong inputs. */
public final class PromisesTest {
    private static final int LEAST = Integer.MIN_VALUE, GREATEST = Integer.MAX_VALUE;
    private static final int NONE = ThievesPaid.NONE, UNKNOWN = ThievesPaid.UNKNOWN, OUTSIDE = ThievesPaid.OUTSIDE;
    private static final int STATE = ThievesPaid.STATE, FULL = ThievesPaid.FULL;
    private static final String EIGHT = "s010,b121,h232,m343,s454,b565,h676,m707";

    private static void due(String call, long got, long want) {
        Check.due(call, got, want);
    }

    public static void main(String[] args) {
        constants();
        newObject();
        letters();
        blank();
        fault();
        contracts();
        contractsKeepTheRest();
        about();
        as();
        paid();
        tenths();
        lock();
        dog();
        spoon();
        silver();
        worth();
        monthOfPlainThieves();
        monthOfKinds();
        monthOfLocksAndDogs();
        where();
        chance();
        chanceOfKindsAndLocks();
        whom();
        whomOfLikeSets();
        still();
        seen();
        who();
        owes();
        fewest();
        months();
        image();
        restore();
        count();
        digest();
        fullCity();
        refusalsChangeNothing();
        questionsChangeNothing();
        Check.finish();
    }

    private static void constants() {
        due("NONE", NONE, -1);
        due("UNKNOWN", UNKNOWN, -101);
        due("OUTSIDE", OUTSIDE, -102);
        due("STATE", STATE, -103);
        due("FULL", FULL, -104);
    }

    private static void newObject() {
        ThievesPaid x = new ThievesPaid();
        for (int what = 0; what <= 6; what++) {
            due("1: count " + what, x.count(what), 0);
        }
        due("1: thief 0", x.about(0, 0), UNKNOWN);
        due("1: spoon 0", x.silver(0, 0), UNKNOWN);
        for (int house = 0; house < 8; house++) {
            due("1: worth " + house, x.worth(house), 0);
            due("1: lock " + house, x.lock(house, 0), 0);
            due("1: dog " + house, x.dog(house, false), 0);
        }
    }

    private static void letters() {
        ThievesPaid x = new ThievesPaid();
        due("2: none", x.letters(0), 0);
        due("2: one", x.letters('0'), 1);
        due("2: two", x.letters(Check.codes("15")), 3);
        due("2: lowest byte first", x.contracts(), 1);
        due("2: payer", x.about(0, 1), 0);
        due("2: robbed", x.about(0, 2), 1);
        due("2: code 126", x.letters(126), 1);
        due("2: code 1", x.letters(1), 2);
        due("2: code 127", x.letters(127), OUTSIDE);
        due("2: code 128", x.letters(128), OUTSIDE);
        due("2: code 255 above", x.letters(-1L), OUTSIDE);
        due("2: highest byte", x.letters(0x8041414141414141L), OUTSIDE);
        due("2: highest byte 127", x.letters(0x7f41414141414141L), OUTSIDE);
        due("2: behind a 0", x.letters(0x410041L), OUTSIDE);
        due("2: first byte 0", x.letters(0x4100L), OUTSIDE);
        due("2: highest byte behind a 0", x.letters(0x4100000000000000L), OUTSIDE);
        due("2: nothing came", x.count(4), 2);
        due("2: eight", x.letters(0x7e41414141414141L), 10);
        for (int n = 18; n <= 34; n += 8) {
            due("2: up to " + n, x.letters(0x4141414141414141L), n);
        }
        due("2: above 40", x.letters(0x41414141414141L), FULL);
        due("2: not as told goes ahead of full", x.letters(0x7f414141414141L), OUTSIDE);
        due("2: 40", x.letters(0x414141414141L), 40);
        due("2: 41", x.letters(0x41), FULL);
        due("2: none more", x.letters(0), 40);
    }

    private static void blank() {
        ThievesPaid x = new ThievesPaid();
        due("3: empty", x.blank(), 0);
        Check.write(x, "s01,,,,??");
        due("3: nine", x.blank(), 9);
        due("3: again", x.blank(), 0);
        due("3: letters now", x.count(4), 0);
        due("3: new letters", Check.write(x, "012"), 3);
        due("3: they are read", x.contracts(), 1);
    }

    private static void faultOf(String text, int place) {
        ThievesPaid x = new ThievesPaid();
        Check.write(x, text);
        due("4: " + text, x.fault(), place);
        due("4: letters of " + text, x.count(4), text.length());
    }

    private static void fault() {
        faultOf("", 0);
        faultOf("s", 1);
        faultOf("b0", 2);
        faultOf("07", 2);
        faultOf("h70", 3);
        faultOf("709", 3);
        faultOf("709,", 4);
        faultOf("709,m", 5);
        faultOf("8", 0);
        faultOf("9", 0);
        faultOf("/", 0);
        faultOf(",", 0);
        faultOf("x01", 0);
        faultOf("S01", 0);
        faultOf(" 012", 0);
        faultOf("ss012", 1);
        faultOf("00", 1);
        faultOf("008", 1);
        faultOf("08", 1);
        faultOf("0s", 1);
        faultOf("s77", 2);
        faultOf("01,", 2);
        faultOf("01:", 2);
        faultOf("01/", 2);
        faultOf("0123", 3);
        faultOf("012;", 3);
        faultOf("012,,", 4);
        faultOf("012,119", 5);
        faultOf(EIGHT, 39);
        faultOf(EIGHT + ",", 39);
        faultOf(EIGHT + "0", 39);
        faultOf("012,012,012,012,012,012,012,012", 31);
        faultOf("012,012,012,012,012,012,012,012,", 31);
    }

    private static void contracts() {
        ThievesPaid x = new ThievesPaid();
        due("5: empty page", x.contracts(), STATE);
        String[] none = {"s", "0", "01", "s01", "012,", "012,s", "012,3", "0123", "002", "812", "012,x", EIGHT + ","};
        for (String text : none) {
            Check.write(x, text);
            due("5: none: " + text, x.contracts(), STATE);
            due("5: the page stays: " + text, x.blank(), text.length());
        }
        due("5: not read", x.count(6), 0);
        due("5: no thieves", x.count(0), 0);
        Check.write(x, EIGHT);
        due("5: eight", x.contracts(), 8);
        due("5: the page is empty", x.count(4), 0);
        due("5: once read", x.count(6), 1);
        due("5: nothing to read", x.contracts(), STATE);
        due("5: thieves stay", x.count(0), 8);
        Check.write(x, "h430,120");
        due("5: two", x.contracts(), 2);
        due("5: others are gone", x.about(2, 0), UNKNOWN);
        due("5: new kind", x.about(0, 0), 3);
        due("5: twice read", x.count(6), 2);
    }

    private static void contractsKeepTheRest() {
        ThievesPaid x = Check.city("015,126");
        x.paid(0, false);
        x.tenths(1, 3);
        x.spoon(1, 40);
        x.spoon(3, 50);
        x.seen(1, 6);
        x.lock(3, 9);
        x.dog(4, true);
        x.month();
        Check.write(x, "207,018");
        x.contracts();
        due("5: all are paid", x.about(0, 4), 1);
        due("5: each with ten tenths", x.about(1, 5), 10);
        due("5: spoons stay", x.count(1), 2);
        due("5: where they are", x.silver(0, 2), 1);
        due("5: seen stays", x.silver(1, 3), 6);
        due("5: locks stay", x.lock(3, 0), 8);
        due("5: dogs stay", x.dog(4, false), 1);
        due("5: months stay", x.count(2), 1);
        due("5: fees stay", x.count(3), 6);
    }

    private static void about() {
        ThievesPaid x = Check.city("019,s270,b103,h564,m745");
        int[][] want = {{0, 0, 1, 9}, {1, 2, 7, 0}, {2, 1, 0, 3}, {3, 5, 6, 4}, {4, 7, 4, 5}};
        for (int thief = 0; thief < 5; thief++) {
            for (int what = 0; what < 4; what++) {
                due("6: about(" + thief + ", " + what + ")", x.about(thief, what), want[thief][what]);
            }
            due("6: paid at first", x.about(thief, 4), 1);
            due("6: ten tenths at first", x.about(thief, 5), 10);
        }
        x.paid(3, false);
        x.tenths(3, 0);
        due("6: not paid", x.about(3, 4), 0);
        due("6: tenths", x.about(3, 5), 0);
        due("6: another one", x.about(2, 4), 1);
        due("6: thief 5", x.about(5, 0), UNKNOWN);
        due("6: thief -1", x.about(-1, 0), UNKNOWN);
        due("6: least", x.about(LEAST, 6), UNKNOWN);
        due("6: greatest", x.about(GREATEST, -1), UNKNOWN);
        due("6: what 6", x.about(4, 6), OUTSIDE);
        due("6: what -1", x.about(4, -1), OUTSIDE);
    }

    private static void as() {
        ThievesPaid x = Check.city("019,s270,b103,h564,m745,m128");
        int[][] is = {{1, 0, 0, 0, 0}, {1, 1, 0, 0, 0}, {1, 0, 1, 0, 0}, {1, 0, 0, 1, 0}, {1, 1, 0, 0, 1}, {1, 1, 0, 0, 1}};
        for (int thief = 0; thief < 6; thief++) {
            for (int kind = 0; kind < 5; kind++) {
                due("7: as(" + thief + ", " + kind + ")", x.as(thief, kind), is[thief][kind] == 1 ? thief : NONE);
            }
        }
        due("7: thief 6", x.as(6, 0), UNKNOWN);
        due("7: thief -1", x.as(-1, 9), UNKNOWN);
        due("7: kind 5", x.as(0, 5), OUTSIDE);
        due("7: kind -1", x.as(0, -1), OUTSIDE);
        due("7: greatest kind", x.as(0, GREATEST), OUTSIDE);
    }

    private static void paid() {
        ThievesPaid x = Check.city("019,270");
        due("8: was paid", x.paid(0, false), 1);
        due("8: was not", x.paid(0, false), 0);
        due("8: was not still", x.paid(0, true), 0);
        due("8: is again", x.paid(0, true), 1);
        due("8: the other one", x.about(1, 4), 1);
        due("8: thief 2", x.paid(2, true), UNKNOWN);
        due("8: thief -1", x.paid(-1, true), UNKNOWN);
        due("8: greatest", x.paid(GREATEST, false), UNKNOWN);
        due("8: no contracts", new ThievesPaid().paid(0, false), UNKNOWN);
    }

    private static void tenths() {
        ThievesPaid x = Check.city("019,270");
        due("9: ten at first", x.tenths(1, 0), 10);
        due("9: to 0", x.tenths(1, 10), 0);
        due("9: to 10", x.tenths(1, 7), 10);
        due("9: 11", x.tenths(1, 11), OUTSIDE);
        due("9: -1", x.tenths(1, -1), OUTSIDE);
        due("9: stays", x.about(1, 5), 7);
        due("9: the other one", x.about(0, 5), 10);
        due("9: thief 2", x.tenths(2, 11), UNKNOWN);
        due("9: least", x.tenths(LEAST, 5), UNKNOWN);
    }

    private static void lock() {
        ThievesPaid x = new ThievesPaid();
        due("10: 0 at first", x.lock(7, 9), 0);
        due("10: 9", x.lock(7, 0), 9);
        due("10: 0", x.lock(7, 4), 0);
        due("10: 10", x.lock(7, 10), OUTSIDE);
        due("10: -1", x.lock(7, -1), OUTSIDE);
        due("10: stays", x.lock(7, 4), 4);
        due("10: another house", x.lock(0, 1), 0);
        due("10: house 8", x.lock(8, 10), UNKNOWN);
        due("10: house -1", x.lock(-1, 3), UNKNOWN);
        due("10: greatest", x.lock(GREATEST, LEAST), UNKNOWN);
    }

    private static void dog() {
        ThievesPaid x = new ThievesPaid();
        due("11: none at first", x.dog(0, true), 0);
        due("11: it had", x.dog(0, true), 1);
        due("11: still", x.dog(0, false), 1);
        due("11: not now", x.dog(0, false), 0);
        due("11: house 7", x.dog(7, true), 0);
        due("11: house 8", x.dog(8, true), UNKNOWN);
        due("11: house -1", x.dog(-1, true), UNKNOWN);
        due("11: least", x.dog(LEAST, false), UNKNOWN);
    }

    private static void spoon() {
        ThievesPaid x = new ThievesPaid();
        due("12: house 8", x.spoon(8, 0), UNKNOWN);
        due("12: house -1", x.spoon(-1, 5), UNKNOWN);
        due("12: worth 0", x.spoon(0, 0), OUTSIDE);
        due("12: worth 100", x.spoon(0, 100), OUTSIDE);
        due("12: least worth", x.spoon(7, LEAST), OUTSIDE);
        due("12: none came", x.count(1), 0);
        for (int n = 0; n < 8; n++) {
            due("12: number " + n, x.spoon(n, n == 7 ? 99 : n + 1), n);
        }
        due("12: full", x.spoon(3, 1), FULL);
        due("12: full, no worth", x.spoon(3, 100), OUTSIDE);
        due("12: full, no house", x.spoon(9, 100), UNKNOWN);
        due("12: eight", x.count(1), 8);
    }

    private static void silver() {
        ThievesPaid x = Check.city("015");
        x.spoon(1, 99);
        x.spoon(6, 1);
        x.month();
        due("13: worth", x.silver(0, 0), 99);
        due("13: owner", x.silver(0, 1), 1);
        due("13: house", x.silver(0, 2), 0);
        due("13: not seen", x.silver(0, 3), NONE);
        due("13: second worth", x.silver(1, 0), 1);
        due("13: second house", x.silver(1, 2), 6);
        x.seen(1, 4);
        due("13: seen", x.silver(1, 3), 4);
        due("13: what 4", x.silver(1, 4), OUTSIDE);
        due("13: what -1", x.silver(1, -1), OUTSIDE);
        due("13: spoon 2", x.silver(2, 4), UNKNOWN);
        due("13: spoon -1", x.silver(-1, 0), UNKNOWN);
        due("13: greatest", x.silver(GREATEST, 0), UNKNOWN);
    }

    private static void worth() {
        ThievesPaid x = Check.city("013");
        x.spoon(1, 10);
        x.spoon(1, 20);
        x.spoon(0, 5);
        due("14: house 1", x.worth(1), 30);
        due("14: house 0", x.worth(0), 5);
        x.month();
        due("14: house 1 then", x.worth(1), 10);
        due("14: house 0 then", x.worth(0), 25);
        due("14: house 7", x.worth(7), 0);
        due("14: house 8", x.worth(8), UNKNOWN);
        due("14: house -1", x.worth(-1), UNKNOWN);
        due("14: least", x.worth(LEAST), UNKNOWN);
    }

    private static void monthOfPlainThieves() {
        ThievesPaid none = new ThievesPaid();
        none.spoon(0, 1);
        due("15: no contracts", none.month(), STATE);
        due("15: no month", none.count(2), 0);

        ThievesPaid x = Check.city("014,203");
        int low = x.spoon(1, 10);
        int high = x.spoon(1, 30);
        int like = x.spoon(1, 30);
        due("15: one taken twice counts twice", x.month(), 2);
        due("15: most worth, least number, carried on", x.silver(high, 2), 2);
        due("15: like one stays", x.silver(like, 2), 1);
        due("15: low one stays", x.silver(low, 2), 1);
        due("15: fees", x.count(3), 7);
        x.paid(1, false);
        due("15: not paid robs his own", x.month(), 2);
        due("15: the like one goes to 0", x.silver(like, 2), 0);
        due("15: back to 0", x.silver(high, 2), 0);
        due("15: only who is paid has a fee", x.count(3), 11);
        due("15: months", x.count(2), 2);
    }

    private static void monthOfKinds() {
        ThievesPaid x = Check.city("s010,b320,h540,m760");
        int[] worths = {5, 9, 9, 7};
        for (int i = 0; i < 4; i++) {
            x.spoon(1, worths[i]);
        }
        due("15: two by the skilled one", x.month(), 2);
        due("15: 9 of less number", x.silver(1, 2), 0);
        due("15: 9 of more number", x.silver(2, 2), 0);
        due("15: 7 stays", x.silver(3, 2), 1);
        due("15: 5 stays", x.silver(0, 2), 1);
        due("15: the rest", x.month(), 2);
        due("15: nothing there", x.month(), 0);

        ThievesPaid b = Check.city("b320,h541,m760");
        int[][] spoons = {{2, 8}, {2, 4}, {2, 4}, {4, 50}, {6, 3}};
        for (int[] s : spoons) {
            b.spoon(s[0], s[1]);
        }
        due("15: one by the brother, one by the master", b.month(), 2);
        due("15: least worth, least number", b.silver(1, 2), 3);
        due("15: like one stays", b.silver(2, 2), 2);
        due("15: great one stays", b.silver(0, 2), 2);
        due("15: honest takes none", b.silver(3, 2), 4);
        due("15: master takes one of one", b.silver(4, 2), 7);
        due("15: the honest one is paid too", b.count(3), 1);

        ThievesPaid one = Check.city("s010,m230");
        one.spoon(1, 3);
        one.spoon(3, 4);
        one.spoon(3, 5);
        one.spoon(3, 6);
        due("15: one by the skilled, two by the master", one.month(), 3);
        due("15: master leaves the least", one.silver(1, 2), 3);
    }

    private static void monthOfLocksAndDogs() {
        ThievesPaid x = Check.city("015,m235");
        x.spoon(1, 10);
        x.spoon(3, 20);
        x.lock(1, 2);
        x.lock(3, 9);
        x.lock(0, 1);
        due("15: a lock keeps, not from a master", x.month(), 1);
        due("15: lock 1 lapsed", x.lock(1, 1), 1);
        due("15: lock 3 lapsed", x.lock(3, 8), 8);
        due("15: lock 0 lapsed", x.lock(0, 0), 0);
        due("15: kept still", x.month(), 0);
        due("15: lock 1 is gone", x.lock(1, 0), 0);
        due("15: not below 0", x.lock(0, 0), 0);
        due("15: open", x.month(), 1);
        due("15: fees though nothing is taken", x.count(3), 30);

        ThievesPaid d = Check.city("015,m235,s450,h670");
        d.spoon(1, 10);
        d.spoon(3, 20);
        d.spoon(5, 30);
        d.dog(1, true);
        d.dog(3, true);
        d.dog(4, true);
        d.lock(4, 9);
        due("15: a dog keeps all; where one is brought to, none", d.month(), 1);
        due("15: kept from the thief", d.silver(0, 2), 1);
        due("15: kept from the master", d.silver(1, 2), 3);
        due("15: brought where a dog is", d.silver(2, 2), 4);
        d.paid(2, false);
        due("15: not out again", d.month(), 0);
        d.dog(4, false);
        due("15: locked", d.month(), 0);
        d.dog(3, false);
        due("15: master without a dog", d.month(), 1);
    }

    private static void where() {
        ThievesPaid x = Check.city("013,m121,203");
        x.spoon(1, 10);
        x.spoon(2, 20);
        x.spoon(5, 1);
        due("16: now", x.where(0, 0), 1);
        // 1 takes spoon 0 to 0, then spoon 1 goes 2 -> 1, then spoon 0 goes 0 -> 2.
        due("16: spoon 0 behind 1", x.where(0, 1), 2);
        due("16: spoon 1 behind 1", x.where(1, 1), 1);
        // Then spoon 1 goes 1 -> 0, spoon 0 goes 2 -> 1, spoon 1 goes 0 -> 2.
        due("16: spoon 0 behind 2", x.where(0, 2), 1);
        due("16: spoon 1 behind 2", x.where(1, 2), 2);
        due("16: behind 60", x.where(0, 60), 1);
        due("16: nobody comes there", x.where(2, 60), 5);
        x.lock(1, 2);
        due("16: locked", x.where(0, 2), 1);
        // The master brought spoon 1 there; it is worth more, and goes first when the lock has lapsed.
        due("16: lapsed", x.where(1, 3), 2);
        due("16: behind the other one", x.where(0, 3), 1);
        due("16: then it goes, too", x.where(0, 4), 2);
        due("16: locks are as they were", x.lock(1, 2), 2);
        x.dog(1, true);
        due("16: dogs stay", x.where(0, 60), 1);
        x.tenths(1, 0);
        due("16: all come", x.where(1, 1), 1);
        due("16: nothing moved", x.silver(1, 2), 2);
        due("16: months 61", x.where(0, 61), OUTSIDE);
        due("16: months -1", x.where(0, -1), OUTSIDE);
        due("16: spoon 3", x.where(3, 61), UNKNOWN);
        due("16: spoon -1", x.where(-1, 0), UNKNOWN);
        ThievesPaid none = new ThievesPaid();
        due("16: no spoon, no contracts", none.where(0, 0), UNKNOWN);
        none.spoon(4, 4);
        due("16: no contracts", none.where(0, 0), STATE);
        due("16: no contracts, months", none.where(0, 61), OUTSIDE);
    }

    private static void chanceIs(String what, ThievesPaid x, int[] call, long above, long below) {
        due("17: " + what + ", above", x.chance(call[0], call[1], call[2], 0), above);
        due("17: " + what + ", below", x.chance(call[0], call[1], call[2], 1), below);
    }

    private static void chance() {
        ThievesPaid x = Check.city("010,200");
        x.spoon(1, 5);
        x.spoon(1, 50);
        x.tenths(0, 4);
        x.tenths(1, 5);
        chanceIs("stays", x, new int[] {0, 1, 1}, 3, 5);
        chanceIs("moved once", x, new int[] {0, 1, 0}, 1, 5);
        chanceIs("moved on", x, new int[] {0, 1, 2}, 1, 5);
        chanceIs("nobody goes there", x, new int[] {0, 1, 7}, 0, 1);
        // Behind two: 1 stays by 0.36; 0: (0.2 + 0.6 * 0.4) * 0.5 = 0.22; 2: 0.2 + 0.22 = 0.42.
        chanceIs("stays twice", x, new int[] {1, 2, 1}, 9, 25);
        chanceIs("behind two in 0", x, new int[] {1, 2, 0}, 11, 50);
        chanceIs("behind two in 2", x, new int[] {1, 2, 2}, 21, 50);
        x.tenths(0, 10);
        x.tenths(1, 10);
        chanceIs("surely", x, new int[] {0, 1, 2}, 1, 1);
        x.tenths(0, 0);
        chanceIs("never", x, new int[] {0, 2, 0}, 0, 1);
        x.paid(0, false);
        x.tenths(0, 3);
        chanceIs("not paid, not there", x, new int[] {0, 2, 1}, 1, 1);
        due("17: spoon 2", x.chance(2, 0, 0, 2), UNKNOWN);
        due("17: spoon -1", x.chance(-1, 1, 0, 0), UNKNOWN);
        due("17: house 8", x.chance(0, 3, 8, 0), UNKNOWN);
        due("17: house -1", x.chance(0, 1, -1, 0), UNKNOWN);
        due("17: months 0", x.chance(0, 0, 0, 0), OUTSIDE);
        due("17: months 3", x.chance(0, 3, 0, 0), OUTSIDE);
        due("17: part 2", x.chance(0, 1, 0, 2), OUTSIDE);
        due("17: part -1", x.chance(0, 1, 0, -1), OUTSIDE);
        ThievesPaid none = new ThievesPaid();
        due("17: no spoon, no contracts", none.chance(0, 1, 0, 0), UNKNOWN);
        none.spoon(0, 1);
        due("17: no contracts", none.chance(0, 1, 0, 0), STATE);
        due("17: no contracts, part", none.chance(0, 1, 0, 2), OUTSIDE);
    }

    private static void chanceOfKindsAndLocks() {
        ThievesPaid x = Check.city("h010,s010,b120");
        x.spoon(1, 5);
        x.tenths(0, 9);
        x.tenths(1, 3);
        chanceIs("the honest one takes none", x, new int[] {0, 1, 0}, 3, 10);
        x.lock(1, 1);
        chanceIs("locked", x, new int[] {0, 1, 0}, 0, 1);
        chanceIs("lapsed in the second", x, new int[] {0, 2, 0}, 3, 10);
        x.lock(1, 2);
        chanceIs("locked in both", x, new int[] {0, 2, 1}, 1, 1);
        due("17: the lock is as it was", x.lock(1, 0), 2);
        x.dog(1, true);
        chanceIs("a dog", x, new int[] {0, 2, 1}, 1, 1);

        ThievesPaid m = Check.city("m010");
        m.spoon(1, 5);
        m.tenths(0, 3);
        m.lock(1, 9);
        chanceIs("a lock does not keep a master", m, new int[] {0, 2, 0}, 51, 100);
        m.dog(1, true);
        chanceIs("a dog does", m, new int[] {0, 2, 0}, 0, 1);
        m.dog(1, false);
        m.paid(0, false);
        chanceIs("not paid", m, new int[] {0, 2, 1}, 1, 1);

        ThievesPaid eight = Check.city("010,010,010,010,010,010,010,010");
        eight.spoon(1, 5);
        for (int t = 0; t < 8; t++) {
            eight.tenths(t, 3);
        }
        // It stays by 0.7 to the 16th.
        chanceIs("sixteen times", eight, new int[] {0, 2, 1}, 33232930569601L, 10000000000000000L);
        chanceIs("the rest", eight, new int[] {0, 2, 0}, 9966767069430399L, 10000000000000000L);
    }

    private static void whom() {
        ThievesPaid x = Check.city("014,s027,341");
        x.spoon(1, 10);
        x.spoon(2, 20);
        x.spoon(2, 9);
        x.spoon(0, 8);
        // Paid 0: +10 - 4; paid 1: +29 - 7; not paid, each takes from house 0.
        due("18: both, how much", x.whom(0, 1, 0), 8 + 10 + 29 - 11);
        due("18: both, which", x.whom(0, 1, 1), 3);
        due("18: 0 months, how much", x.whom(0, 0, 0), 8);
        due("18: 0 months, which", x.whom(0, 0, 1), 0);
        // In twelve months the fees come to 132, so all is better lost.
        due("18: twelve, how much", x.whom(0, 12, 0), 0);
        due("18: twelve, which", x.whom(0, 12, 1), 0);
        due("18: a house that can pay nobody", x.whom(2, 1, 0), 0);
        due("18: its set", x.whom(2, 1, 1), 0);
        x.paid(0, false);
        x.paid(1, false);
        due("18: whether they are paid now is nothing", x.whom(0, 1, 1), 3);
        due("18: others as they are", x.whom(2, 1, 0), 29);
        due("18: nobody was paid by it", x.about(0, 4), 0);
        x.tenths(0, 0);
        due("18: all come", x.whom(0, 1, 0), 36);
        due("18: house 8", x.whom(8, 13, 2), -100101);
        due("18: house -1", x.whom(-1, 1, 0), -100101);
        due("18: months 13", x.whom(0, 13, 0), -100102);
        due("18: months -1", x.whom(0, -1, 0), -100102);
        due("18: what 2", x.whom(0, 1, 2), -100102);
        due("18: what -1", x.whom(0, 1, -1), -100102);
        ThievesPaid none = new ThievesPaid();
        due("18: no contracts", none.whom(0, 0, 0), -100103);
        due("18: no contracts, months", none.whom(0, 13, 0), -100102);
        due("18: no contracts, house", none.whom(8, 0, 0), -100101);
    }

    private static void whomOfLikeSets() {
        ThievesPaid x = Check.city("h010,010,h020,010");
        x.spoon(1, 30);
        due("18: fewest, then least bits", x.whom(0, 1, 1), 8);
        x.spoon(0, 5);
        // Not paid, thief 1 takes from 0 what thief 3 takes back; paid, he takes it at once.
        due("18: how much", x.whom(0, 1, 0), 35);
        due("18: two are wanted now", x.whom(0, 1, 1), 10);

        ThievesPaid like = Check.city("h010,b011,s011");
        like.spoon(1, 1);
        due("18: a gain of 0 is nobody's", like.whom(0, 1, 1), 0);
        due("18: nothing is gained", like.whom(0, 1, 0), 0);
        ThievesPaid loss = Check.city("012,b122,s343");
        loss.spoon(0, 4);
        loss.spoon(0, 1);
        due("18: kept for a fee", loss.whom(0, 1, 0), 3);
        due("18: by whom", loss.whom(0, 1, 1), 1);
        due("18: a fee for each month", loss.whom(0, 2, 0), 1);
        due("18: it is not worth three", loss.whom(0, 3, 0), 0);
        due("18: so nobody", loss.whom(0, 3, 1), 0);
        // Thieves 0 and 1 take for 2 in all what thief 2 alone takes for 2.
        ThievesPaid alone = Check.city("011,011,s012");
        alone.spoon(1, 5);
        alone.spoon(1, 5);
        alone.dog(0, true);
        due("18: one or two gain as much", alone.whom(0, 1, 0), 8);
        due("18: fewest goes ahead of least bits", alone.whom(0, 1, 1), 4);
        ThievesPaid two = Check.city("010,020");
        two.spoon(1, 7);
        two.spoon(2, 7);
        two.dog(0, true);
        due("18: with a dog both", two.whom(0, 1, 1), 3);
        two.dog(1, true);
        due("18: one", two.whom(0, 1, 1), 2);
        ThievesPaid bits = Check.city("120,010,010");
        bits.spoon(1, 9);
        bits.dog(0, true);
        bits.paid(0, false);
        bits.dog(1, false);
        due("18: the spoon goes to 2 first", bits.whom(0, 1, 1), 0);
        bits.paid(0, true);
        due("18: of two like ones the least bit", bits.whom(0, 1, 1), 2);
    }

    private static void still() {
        due("19: no contracts", new ThievesPaid().still(), STATE);
        ThievesPaid x = Check.city("010");
        due("19: no spoons", x.still(), 0);
        for (int i = 0; i < 3; i++) {
            x.spoon(1, 5);
        }
        due("19: three to take", x.still(), 3);
        x.lock(1, 9);
        due("19: a lock holds first", x.still(), 0);
        x.lock(1, 0);
        x.tenths(0, 0);
        due("19: all come", x.still(), 3);
        x.paid(0, false);
        due("19: nothing in 0", x.still(), 0);
        due("19: months are as they were", x.count(2), 0);
        ThievesPaid round = Check.city("010,100");
        round.spoon(0, 5);
        due("19: for ever round", round.still(), NONE);
        round.dog(1, true);
        due("19: once to where a dog is", round.still(), 1);
        ThievesPaid lapse = Check.city("m010,100");
        lapse.spoon(0, 5);
        lapse.lock(0, 3);
        due("19: a spoon behind a lock", lapse.still(), 0);
        lapse.spoon(1, 5);
        // The master brings the second one to 0; behind that nothing is taken until the lock is gone.
        due("19: behind one month", lapse.still(), 1);
    }

    private static void seen() {
        ThievesPaid x = Check.city("010");
        x.spoon(1, 5);
        x.spoon(1, 6);
        due("20: not so far", x.seen(0, 7), NONE);
        due("20: in 7", x.seen(0, 0), 7);
        due("20: in 0", x.seen(0, NONE), 0);
        due("20: not seen", x.seen(0, 3), NONE);
        due("20: the other one", x.silver(1, 3), NONE);
        x.month();
        due("20: stays behind a month", x.silver(0, 3), 3);
        due("20: house 8", x.seen(0, 8), UNKNOWN);
        due("20: house -2", x.seen(0, -2), UNKNOWN);
        due("20: spoon 2", x.seen(2, 0), UNKNOWN);
        due("20: spoon -1", x.seen(-1, NONE), UNKNOWN);
        due("20: nothing told", x.silver(0, 3), 3);
    }

    private static void who() {
        due("21: no contracts", new ThievesPaid().who(), STATE);
        ThievesPaid x = Check.city("010,120,s340");
        x.spoon(1, 10);
        x.spoon(2, 20);
        x.spoon(4, 30);
        due("21: nothing seen", x.who(), 256 + 7);
        x.seen(0, 0);
        due("21: 0 came", x.who(), 256 + 6);
        x.seen(1, 2);
        due("21: 1 did not", x.who(), 2);
        x.seen(2, 4);
        due("21: two did not, so nobody alone", x.who(), 0);
        x.seen(2, NONE);
        x.seen(1, NONE);
        x.seen(0, 1);
        due("21: 0 did not", x.who(), 1);
        x.seen(0, 5);
        due("21: nobody brings it there", x.who(), 0);
        x.seen(0, 0);
        x.seen(1, 1);
        x.seen(2, 3);
        due("21: all came, or each is missed", x.who(), 256);
        x.lock(4, 1);
        due("21: a lock", x.who(), 0);
        x.seen(2, 4);
        due("21: thief 2 comes for nothing", x.who(), 256 + 4);
        due("21: the lock is as it was", x.lock(4, 0), 1);
        due("21: nothing moved", x.count(5), 0);
        ThievesPaid eight = Check.city("010,010,010,010,010,010,010,010");
        eight.spoon(1, 9);
        eight.seen(0, 0);
        due("21: eight bits and one", eight.who(), 511);
    }

    private static void owes() {
        ThievesPaid x = Check.city("s010,b200,340");
        x.spoon(1, 10);
        x.spoon(1, 20);
        x.spoon(1, 5);
        x.spoon(4, 7);
        x.month();
        // 20 and 10 go to 0, the brother brings 10 on to 2; 7 goes to 3.
        due("22: 0 owes 1", x.owes(0, 1), 20);
        due("22: 2 owes 1", x.owes(2, 1), 10);
        due("22: 3 owes 4", x.owes(3, 4), 7);
        due("22: 1 owes 0 nothing", x.owes(1, 0), 0);
        due("22: its own", x.owes(1, 2), 0);
        due("22: the same", x.owes(1, 1), UNKNOWN);
        due("22: house 8", x.owes(8, 0), UNKNOWN);
        due("22: other house 8", x.owes(0, 8), UNKNOWN);
        due("22: house -1", x.owes(-1, 0), UNKNOWN);
        due("22: other house -1", x.owes(0, -1), UNKNOWN);
        x.paid(0, false);
        x.spoon(0, 99);
        x.month();
        // The skilled one, not paid, brings 99 and 20 to 1: it owes 0, who owes it nothing now.
        due("22: both are told whole", x.owes(1, 0), 99);
        due("22: home again", x.owes(0, 1), 0);
    }

    private static void fewest() {
        ThievesPaid x = Check.city("010");
        due("23: no spoons", x.fewest(), 0);
        x.spoon(1, 10);
        due("23: all at home", x.fewest(), 0);
        x.month();
        due("23: one payment", x.fewest(), 1);
        x.paid(0, false);
        x.month();
        due("23: home again", x.fewest(), 0);

        // A round of like spoons: each owes, and is owed, the same.
        ThievesPaid round = Check.city("010,120,200");
        round.spoon(0, 5);
        round.spoon(1, 5);
        round.spoon(2, 5);
        round.month();
        due("23: in a round nothing is left to pay", round.fewest(), 0);

        // 0 owes 1: 6 and 2 owes 3: 6, another pair 4 owes 5: 9: three payments.
        ThievesPaid pairs = Check.city("010,230,450");
        pairs.spoon(1, 6);
        pairs.spoon(3, 6);
        pairs.spoon(5, 9);
        pairs.month();
        due("23: three pairs", pairs.fewest(), 3);

        // 1 and 2 owe 0 in all 12, 3 owes 4 12: groups of three and of two.
        ThievesPaid three = Check.city("100,200,340");
        three.spoon(0, 5);
        three.spoon(0, 7);
        three.spoon(4, 12);
        three.month();
        due("23: three and two", three.fewest(), 3);

        // 0 and 1 owe 2 and 3 each 6 in all, by four debts: two pairs.
        ThievesPaid cross = Check.city("020,130,120,030");
        cross.spoon(2, 4);
        cross.spoon(3, 4);
        cross.spoon(2, 2);
        cross.spoon(3, 2);
        cross.month();
        due("23: four debts by two payments", cross.fewest(), 2);

        // 0 owes 1, 1 owes 2, and so on, 1 less each time: 0 owes 19, 7 is owed 13, the others 1.
        ThievesPaid chain = Check.city("010,120,230,340,450,560,670");
        for (int h = 1; h < 8; h++) {
            chain.spoon(h, 20 - h);
        }
        chain.month();
        due("23: a chain is one group", chain.fewest(), 7);

        // 0 owes 1 to 7 a power of two each: no part of them is alike.
        ThievesPaid powers = Check.city("010,020,030,040,050,060,070");
        for (int h = 1; h < 8; h++) {
            powers.spoon(h, 1 << (h - 1));
        }
        powers.month();
        due("23: all in one group", powers.fewest(), 7);
    }

    private static void months() {
        ThievesPaid x = Check.city("010,120");
        x.spoon(1, 10);
        x.spoon(2, 20);
        // Seed 1: draws come from 1103527590 (16838: 8) and 377401575 (5758: 8).
        due("24: the seed behind two draws", x.months(1, 1, 2), 377401575);
        due("24: all come by ten tenths", x.months(1, 1, 1), 2);
        due("24: none is at home", x.months(1, 1, 0), 0);
        x.tenths(0, 8);
        x.tenths(1, 9);
        due("24: 8 is not below 8", x.months(1, 1, 1), 1);
        due("24: spoon 0 is at home", x.months(1, 1, 0), 10);
        x.tenths(0, 9);
        x.tenths(1, 8);
        due("24: 8 is below 9", x.months(1, 1, 1), 1);
        due("24: spoon 1 is at home", x.months(1, 1, 0), 20);
        x.tenths(0, 0);
        x.tenths(1, 0);
        due("24: nobody comes by 0", x.months(60, 7, 1), 0);
        due("24: all is at home", x.months(60, 7, 0), 30);
        x.tenths(0, 10);
        x.tenths(1, 10);
        due("24: three are taken in two", x.months(2, 5, 1), 3);
        x.lock(1, 1);
        due("24: locks lapse", x.months(2, 5, 1), 2);
        due("24: behind the lock", x.months(3, 5, 1), 3);
        due("24: one month locked", x.months(1, 5, 1), 1);
        x.lock(1, 0);
        due("24: nothing moved", x.count(5), 0);
        due("24: no month went by", x.count(2), 0);
        due("24: greatest seed", x.months(1, GREATEST, 2), nextSeed(nextSeed(GREATEST)));
        due("24: seed 0", x.months(1, 0, 2), nextSeed(nextSeed(0)));
        due("24: times 0", x.months(0, 1, 0), OUTSIDE);
        due("24: times 61", x.months(61, 1, 0), OUTSIDE);
        due("24: seed -1", x.months(1, -1, 0), OUTSIDE);
        due("24: what 3", x.months(1, 1, 3), OUTSIDE);
        due("24: what -1", x.months(1, 1, -1), OUTSIDE);
        due("24: no contracts", new ThievesPaid().months(1, 0, 0), STATE);
        due("24: no contracts, times", new ThievesPaid().months(0, 0, 0), OUTSIDE);
        ThievesPaid toAndFro = Check.city("010,100");
        toAndFro.spoon(1, 9);
        toAndFro.tenths(0, 4);
        toAndFro.tenths(1, 5);
        due("24: sixty months, taken", toAndFro.months(60, 2026, 1), takenToAndFro());
        ThievesPaid honest = Check.city("h010");
        due("24: a draw for the honest one, too", honest.months(1, 0, 2), 12345);
    }

    /** One spoon to and fro for sixty months by 4 and 5 tenths. */
    private static int takenToAndFro() {
        long seed = 2026;
        int house = 1;
        int taken = 0;
        for (int draw = 0; draw < 120; draw++) {
            seed = nextSeed(seed);
            int from = draw % 2 == 0 ? 1 : 0;
            if ((seed >> 16) % 10 < (draw % 2 == 0 ? 4 : 5) && house == from) {
                house = 1 - from;
                taken++;
            }
        }
        return taken;
    }

    private static long nextSeed(long seed) {
        return (1103515245L * seed + 12345) % (1L << 31);
    }

    private static void image() {
        ThievesPaid x = new ThievesPaid();
        due("25: no spoons", x.image(), 0);
        due("25: kept", x.restore(), 0);
        x.spoon(0, 1);
        x.spoon(0, 2);
        due("25: two", x.image(), 2);
        x.lock(3, 4);
        due("25: the latest", x.image(), 2);
        x.lock(3, 9);
        x.restore();
        due("25: of the latest", x.lock(3, 1), 4);
    }

    private static void restore() {
        ThievesPaid x = Check.city("014,123");
        due("26: none was kept", x.restore(), STATE);
        due("26: none was kept by a new one", new ThievesPaid().restore(), STATE);
        x.spoon(1, 10);
        x.spoon(2, 20);
        x.lock(5, 6);
        x.dog(6, true);
        x.paid(1, false);
        x.tenths(0, 3);
        x.seen(1, 7);
        x.month();
        x.image();
        x.lock(5, 0);
        x.lock(4, 9);
        x.dog(6, false);
        x.dog(5, true);
        x.paid(1, true);
        x.paid(0, false);
        x.tenths(0, 4);
        x.tenths(1, 5);
        x.seen(1, NONE);
        x.seen(0, 2);
        x.month();
        x.month();
        x.letters('s');
        due("26: two", x.restore(), 2);
        due("26: spoon 0 was taken", x.silver(0, 2), 0);
        due("26: spoon 1 was not", x.silver(1, 2), 2);
        due("26: lock 5", x.lock(5, 5), 5);
        due("26: lock 4", x.lock(4, 0), 0);
        due("26: dog 6", x.dog(6, true), 1);
        due("26: dog 5", x.dog(5, false), 0);
        due("26: paid 0", x.about(0, 4), 1);
        due("26: paid 1", x.about(1, 4), 0);
        due("26: tenths 0", x.about(0, 5), 3);
        due("26: tenths 1", x.about(1, 5), 10);
        due("26: seen 0", x.silver(0, 3), NONE);
        due("26: seen 1", x.silver(1, 3), 7);
        due("26: months", x.count(2), 1);
        due("26: fees", x.count(3), 4);
        due("26: the page is not of it", x.blank(), 1);
        x.month();
        due("26: once more", x.restore(), 2);
        due("26: months once more", x.count(2), 1);
        x.contracts();
        due("26: contracts that are none change nothing", x.restore(), 2);
        Check.write(x, "014,123");
        x.contracts();
        due("26: contracts were read", x.restore(), STATE);
        due("26: nothing changed", x.about(0, 5), 10);
        x.image();
        due("26: a new one", x.restore(), 2);
        x.spoon(9, 9);
        due("26: none came", x.restore(), 2);
        x.spoon(3, 9);
        due("26: a spoon came", x.restore(), STATE);
    }

    private static void count() {
        ThievesPaid x = Check.city("014,h239");
        x.spoon(1, 10);
        x.spoon(3, 10);
        x.spoon(5, 10);
        x.month();
        x.month();
        Check.write(x, "s0123");
        int[] want = {2, 3, 2, 26, 5, 1, 1};
        for (int what = 0; what <= 6; what++) {
            due("27: count " + what, x.count(what), want[what]);
        }
        x.paid(1, false);
        x.month();
        due("27: fees of who is paid", x.count(3), 30);
        x.paid(0, false);
        x.month();
        due("27: home again", x.count(5), 0);
        due("27: no fees", x.count(3), 30);
        due("27: months", x.count(2), 4);
        x.contracts();
        due("27: not read", x.count(6), 1);
        due("27: what 7", x.count(7), OUTSIDE);
        due("27: what -1", x.count(-1), OUTSIDE);
        due("27: greatest", x.count(GREATEST), OUTSIDE);
        due("27: least", x.count(LEAST), OUTSIDE);
    }

    private static void digest() {
        ThievesPaid x = new ThievesPaid();
        // 673, then 24 of the houses, FEWEST and 7 of count(): all of them 0.
        long h = 673;
        for (int i = 0; i < 32; i++) {
            h *= 31;
        }
        due("28: a new one", x.digest(), h);
        due("28: by what is told, new", x.digest(), digestAsTold(x, ""));
        Check.write(x, "b01z");
        due("28: with a page", x.digest(), digestAsTold(x, "b01z"));
        x.blank();
        x.spoon(2, 40);
        x.spoon(7, 9);
        x.seen(1, 3);
        due("28: with spoons", x.digest(), digestAsTold(x, ""));
        Check.write(x, EIGHT);
        x.contracts();
        x.tenths(3, 7);
        x.paid(4, false);
        x.month();
        x.dog(4, true);
        x.lock(2, 7);
        Check.write(x, "m");
        due("28: with contracts", x.digest(), digestAsTold(x, "m"));
        x.month();
        due("28: behind a month", x.digest(), digestAsTold(x, "m"));
        ThievesPaid one = Check.city("015");
        one.spoon(1, 3);
        due("28: with one thief", one.digest(), digestAsTold(one, ""));
    }

    /** The digest by what the other calls tell. */
    private static long digestAsTold(ThievesPaid x, String page) {
        long h = 673;
        for (int t = 0; t < x.count(0); t++) {
            for (int what = 0; what <= 5; what++) {
                h = 31 * h + x.about(t, what);
            }
        }
        for (int house = 0; house < 8; house++) {
            int lock = x.lock(house, 0);
            x.lock(house, lock);
            int dog = x.dog(house, false);
            x.dog(house, dog == 1);
            h = 31 * h + lock;
            h = 31 * h + dog;
            h = 31 * h + x.worth(house);
        }
        for (int s = 0; s < x.count(1); s++) {
            for (int what = 0; what <= 3; what++) {
                h = 31 * h + x.silver(s, what);
            }
        }
        h = 31 * h + x.fewest();
        if (x.count(0) > 0) {
            h = 31 * h + x.still();
            h = 31 * h + x.who();
            for (int house = 0; house < 8; house++) {
                h = 31 * h + x.whom(house, 3, 0);
                h = 31 * h + x.whom(house, 3, 1);
            }
        }
        for (int i = 0; i < page.length(); i++) {
            h = 31 * h + page.charAt(i);
        }
        for (int what = 0; what <= 6; what++) {
            h = 31 * h + x.count(what);
        }
        return h;
    }

    /** Eight thieves and eight spoons, so that each row is used to its last place. */
    private static void fullCity() {
        ThievesPaid x = Check.city("010,010,010,010,010,010,010,019");
        for (int s = 0; s < 8; s++) {
            x.spoon(1, 8 + s);
        }
        x.seen(7, 0);
        due("full: worth", x.worth(1), 92);
        due("full: who", x.who(), 511);
        due("full: where", x.where(0, 1), 0);
        due("full: still", x.still(), 1);
        // Not paid, the last one would rob 15 and leave 8 where it is: more than his fee.
        due("full: whom", x.whom(0, 1, 1), 255);
        due("full: how much", x.whom(0, 1, 0), 92 - 9);
        due("full: taken by a seed", x.months(1, 0, 1), 8);
        due("full: at home by a seed", x.months(1, 0, 0), 0);
        due("full: month", x.month(), 8);
        due("full: owes", x.owes(0, 1), 92);
        due("full: away", x.count(5), 8);
        due("full: fewest", x.fewest(), 1);
        due("full: digest", x.digest(), digestAsTold(x, ""));
    }

    private static void refusalsChangeNothing() {
        ThievesPaid x = Check.city("014,h239");
        x.spoon(1, 10);
        x.letters('x');
        long before = x.digest();
        x.letters(-1);
        x.letters(0x4100);
        x.contracts();
        x.paid(2, false);
        x.tenths(0, 11);
        x.tenths(2, 1);
        x.lock(0, 10);
        x.lock(8, 1);
        x.dog(8, true);
        x.spoon(0, 100);
        x.spoon(8, 1);
        x.seen(0, 8);
        x.seen(1, 0);
        x.restore();
        due("refusals change nothing", x.digest(), before);
    }

    private static void questionsChangeNothing() {
        ThievesPaid x = Check.city("014,s239,b315");
        x.spoon(1, 10);
        x.spoon(3, 20);
        x.lock(1, 1);
        x.tenths(0, 5);
        x.paid(2, false);
        x.letters('x');
        long before = x.digest();
        x.fault();
        x.as(0, 0);
        x.where(0, 60);
        x.chance(0, 2, 1, 0);
        x.whom(0, 12, 0);
        x.whom(3, 12, 1);
        x.still();
        x.who();
        x.owes(0, 1);
        x.fewest();
        x.months(60, 9, 0);
        x.image();
        x.digest();
        due("questions change nothing", x.digest(), before);
    }
}
